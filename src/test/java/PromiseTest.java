// For each promise: ordinary inputs, the edges that the document names, and wrong inputs.
public final class PromiseTest {
    private static final int NO_ROOM = -2000000001;
    private static final int NO_KEY = -2000000002;
    private static final int DOWN = -2000000003;

    private static int wrong = 0;
    private static int checked = 0;

    private static void due(String what, long got, long want) {
        checked++;
        if (got != want) {
            wrong++;
            System.out.println(what + " answered " + got + ", due is " + want);
        }
    }

    private static void due(String what, boolean got, boolean want) {
        due(what, got ? 1 : 0, want ? 1 : 0);
    }

    // The key whose mixing is this, so that a test can say by its bits which bucket it comes to.
    private static int keyOf(int mixing) {
        int product = mixing ^ (mixing >>> 15) ^ (mixing >>> 30);
        int inverse = 1;
        for (int i = 0; i < 5; i++) {
            inverse *= 2 - 0x9E3779B1 * inverse;
        }
        return product * inverse;
    }

    // Puts so many keys whose mixings have these lowest bits and differ above bit 12 alone.
    private static void putAlike(ExtendStore x, int lowest, int from, int count) {
        for (int i = from; i < from + count; i++) {
            due("put of alike key " + i, x.put(keyOf(lowest | i << 12), i), 0);
        }
    }

    private static void removeAlike(ExtendStore x, int lowest, int from, int count) {
        for (int i = from; i < from + count; i++) {
            due("remove of alike key " + i, x.remove(keyOf(lowest | i << 12)), 0);
        }
    }

    // A store of depth 1: fifteen keys of lowest bit 0, one key of lowest bit 1.
    private static ExtendStore split(int blocks, int mostDepth) {
        ExtendStore x = new ExtendStore(blocks, mostDepth);
        putAlike(x, 0, 0, 15);
        due("put that splits", x.put(keyOf(1), 100), 0);
        return x;
    }

    private static ExtendStore downStore() {
        ExtendStore x = new ExtendStore(20, 4);
        x.put(1, 10);
        x.sync();
        x.put(1, 11);
        x.crashAfter(1);
        due("sync that crashes", x.sync(), DOWN);
        return x;
    }

    private static void promise1NewObject() {
        int[][] blocksAndFree = {{8, 4}, {9, 5}, {200, 196}, {199, 195}, {7, 4}, {0, 4}, {-1, 4},
            {Integer.MIN_VALUE, 4}, {201, 196}, {Integer.MAX_VALUE, 196}};
        for (int[] row : blocksAndFree) {
            ExtendStore x = new ExtendStore(row[0], 3);
            due("free of " + row[0] + " blocks", x.free(), row[1]);
            due("new size", x.size(), 0);
            due("new depth", x.depth(), 0);
            due("new buckets", x.buckets(), 1);
            due("new writes", x.writes(), 0);
            due("new block", x.bucket(77, 2), 2);
            due("new local depth", x.bucket(77, 0), 0);
            due("new count", x.bucket(77, 1), 0);
            due("sync of a new store", x.sync(), 0);
            due("nothing was written", x.writes(), 0);
        }
        ExtendStore x = new ExtendStore(20, 3);
        x.put(1, 1);
        x.sync();
        due("the first sync takes block 4, since 3 is the directory's", x.bucket(1, 2), 4);
        x.put(1, 2);
        x.sync();
        due("then 2 is free again", x.bucket(1, 2), 2);
    }

    // Which depth is the most shows by keys that part in the highest bit that it allows.
    private static void promise1MostDepth() {
        int[][] givenAndKept = {{Integer.MIN_VALUE, 0}, {-1, 0}, {0, 0}, {1, 1}, {5, 5}, {7, 7}, {8, 8}, {9, 8},
            {Integer.MAX_VALUE, 8}};
        for (int[] row : givenAndKept) {
            for (int bit = 0; bit < 12; bit++) {
                ExtendStore x = new ExtendStore(200, row[0]);
                putAlike(x, 0, 0, 15);
                boolean fits = bit < row[1];
                due("put of a key that parts in bit " + bit + " at most depth " + row[0],
                    x.put(keyOf(1 << bit), 1), fits ? 0 : NO_ROOM);
                due("depth then", x.depth(), fits ? bit + 1 : 0);
                due("buckets then", x.buckets(), fits ? bit + 2 : 1);
                due("size then", x.size(), fits ? 16 : 15);
            }
        }
    }

    private static void promise2Format() {
        ExtendStore x = split(20, 4);
        x.sync();
        due("writes before format", x.writes(), 4);
        x.put(keyOf(1), 5);
        due("format", x.format(), 0);
        due("size after format", x.size(), 0);
        due("depth after format", x.depth(), 0);
        due("buckets after format", x.buckets(), 1);
        due("format writes bucket, directory and master", x.writes(), 7);
        due("format takes the least free block", x.bucket(0, 2), 2);
        due("free after format", x.free(), 16);
        due("get after format", x.get(keyOf(1)), 0);
        due("sync after format writes nothing", x.sync(), 0);
        due("writes after that", x.writes(), 7);
        due("recover after format", x.recover(), 0);
        due("it was synced empty", x.size(), 0);
        due("an empty store is formatted all the same", x.format(), 0);
        due("and written", x.writes(), 10);

        ExtendStore y = new ExtendStore(20, 4);
        y.put(1, 10);
        y.sync();
        y.crashAfter(3);
        due("format that crashes at its master", y.format(), DOWN);
        due("format when down", y.format(), DOWN);
        due("writes of both", y.writes(), 5);
        y.recover();
        due("a format that crashed does not count", y.get(1), 10);
    }

    // With all but its least blocks SYNCED a format has the two that it needs still.
    private static void promise2FormatInTheLeastRoom() {
        ExtendStore x = new ExtendStore(8, 4);
        putAlike(x, 0, 0, 15);
        due("sync of one bucket", x.sync(), 0);
        due("a split", x.put(keyOf(1), 1), 0);
        due("sync of two buckets", x.sync(), 0);
        due("three free", x.free(), 3);
        due("a split more", x.put(keyOf(2), 1), 0);
        due("sync of the two that became", x.sync(), 0);
        due("two free", x.free(), 2);
        due("format with two free", x.format(), 0);
        due("empty", x.size(), 0);
        due("four free again", x.free(), 4);
    }

    private static void promise3Put() {
        ExtendStore x = new ExtendStore(20, 4);
        int[] keys = {0, 1, -1, Integer.MIN_VALUE, Integer.MAX_VALUE, 0x9E3779B1};
        int[] values = {0, -1, Integer.MIN_VALUE, Integer.MAX_VALUE, NO_ROOM, DOWN};
        for (int i = 0; i < keys.length; i++) {
            due("put", x.put(keys[i], values[i]), 0);
        }
        for (int i = 0; i < keys.length; i++) {
            due("get of key " + keys[i], x.get(keys[i]), values[i]);
        }
        due("size", x.size(), keys.length);
        due("put of a key that has a value", x.put(0, 4), 0);
        due("it has the new one", x.get(0), 4);
        due("size is as before", x.size(), keys.length);
        due("put when down", downStore().put(5, 5), DOWN);
    }

    private static void promise3FullBucket() {
        ExtendStore x = new ExtendStore(20, 0);
        putAlike(x, 0, 0, 15);
        x.sync();
        due("a sixteenth key at most depth 0", x.put(keyOf(1), 1), NO_ROOM);
        due("a refused key has no value", x.has(keyOf(1)), false);
        due("a refusal is no change", x.bucket(0, 2), 4);
        due("size after a refusal", x.size(), 15);
        int writes = x.writes();
        due("sync after a refusal", x.sync(), 0);
        due("a refusal is not written", x.writes(), writes);
        due("a value in a full bucket", x.put(keyOf(0), 9), 0);
        due("it stands", x.get(keyOf(0)), 9);
        due("that does not split", x.buckets(), 1);
    }

    private static void promise3Split() {
        ExtendStore x = split(200, 8);
        due("depth", x.depth(), 1);
        due("buckets", x.buckets(), 2);
        due("keys of bit 0", x.bucket(keyOf(0), 1), 15);
        due("keys of bit 1", x.bucket(keyOf(1), 1), 1);
        due("a split bucket is changed", x.bucket(keyOf(0), 2), 0);
        for (int i = 0; i < 15; i++) {
            due("get after the split", x.get(keyOf(i << 12)), i);
        }
        due("a key that parts in bit 7 alone", x.put(keyOf(1 << 7), 7), 0);
        due("depth 8", x.depth(), 8);
        due("seven buckets more", x.buckets(), 9);
        due("the fifteen", x.bucket(keyOf(0), 0), 8);
        due("the other half", x.bucket(keyOf(1 << 7), 0), 8);
        for (int bit = 1; bit < 7; bit++) {
            due("empty half of bit " + bit, x.bucket(keyOf(1 << bit), 1), 0);
            due("its local depth", x.bucket(keyOf(1 << bit), 0), bit + 1);
        }
        due("the odd keys' bucket is as it was", x.bucket(keyOf(1), 0), 1);
        putAlike(x, 1, 1, 14);
        due("a split that does not double", x.put(keyOf(3), 3), 0);
        due("depth is 8 still", x.depth(), 8);
        due("ten buckets", x.buckets(), 10);
        due("the odd keys' local depth", x.bucket(keyOf(1), 0), 2);
        due("a key that no depth parts", x.put(keyOf(1 << 9), 1), NO_ROOM);
        due("ten buckets still", x.buckets(), 10);
    }

    // Buckets and directory fill the disk just so, or would by one too many.
    private static void promise3SplitInTheLeastRoom() {
        int[][] bitAndBlocks = {{4, 9}, {5, 11}, {6, 14}, {7, 19}};
        for (int[] row : bitAndBlocks) {
            int bit = row[0];
            for (int less = 0; less < 2; less++) {
                ExtendStore x = new ExtendStore(row[1] - less, 8);
                putAlike(x, 0, 0, 15);
                due("parts in bit " + bit + " with " + (row[1] - less) + " blocks",
                    x.put(keyOf(1 << bit), 1), less == 0 ? 0 : NO_ROOM);
                due("depth", x.depth(), less == 0 ? bit + 1 : 0);
                due("buckets", x.buckets(), less == 0 ? bit + 2 : 1);
            }
        }
    }

    private static void promise4And5GetAndHas() {
        ExtendStore x = new ExtendStore(20, 4);
        due("get of none", x.get(3), 0);
        due("has of none", x.has(3), false);
        x.put(3, 0);
        due("get of 0", x.get(3), 0);
        due("has with value 0", x.has(3), true);
        due("has of another key", x.has(4), false);
        x.put(3, -7);
        due("get", x.get(3), -7);
        x.remove(3);
        due("get of a removed key", x.get(3), 0);
        due("has of a removed key", x.has(3), false);
        due("get when down", downStore().get(1), DOWN);
        due("has when down", downStore().has(1), false);
    }

    private static void promise6Remove() {
        ExtendStore x = new ExtendStore(20, 4);
        due("remove of none", x.remove(0), NO_KEY);
        putAlike(x, 0, 0, 15);
        x.sync();
        due("remove of none in a full bucket", x.remove(keyOf(1)), NO_KEY);
        due("that is no change", x.bucket(0, 2), 4);
        removeAlike(x, 0, 3, 1);
        due("removed twice", x.remove(keyOf(3 << 12)), NO_KEY);
        due("a removal is a change", x.bucket(0, 2), 0);
        for (int i = 0; i < 15; i++) {
            due("the others stay, " + i, x.has(keyOf(i << 12)), i != 3);
            due("with their values", x.get(keyOf(i << 12)), i == 3 ? 0 : i);
        }
        due("size", x.size(), 14);
        due("remove when down", downStore().remove(1), DOWN);
        due("remove of none when down", downStore().remove(2), DOWN);
    }

    private static void promise6Merge() {
        ExtendStore x = split(20, 8);
        x.sync();
        due("the last key of bit 1", x.remove(keyOf(1)), 0);
        due("merged", x.buckets(), 1);
        due("halved", x.depth(), 0);
        due("local depth", x.bucket(0, 0), 0);
        due("with the buddy's keys", x.bucket(0, 1), 15);
        due("another one by merging", x.bucket(0, 2), 0);
        due("a buddy's key", x.get(keyOf(14 << 12)), 14);

        ExtendStore y = split(20, 8);
        due("deeper on one side", y.put(keyOf(8), 1), 0);
        due("depth 4", y.depth(), 4);
        due("buckets", y.buckets(), 5);
        due("the last odd key", y.remove(keyOf(1)), 0);
        due("its buddy is deeper, so it stays", y.buckets(), 5);
        due("empty", y.bucket(keyOf(1), 1), 0);
        due("the last key at depth 4", y.remove(keyOf(8)), 0);
        due("its buddy has keys, so that ends there", y.buckets(), 4);
        due("depth 3", y.depth(), 3);
        removeAlike(y, 0, 0, 14);
        due("until the last", y.buckets(), 4);
        removeAlike(y, 0, 14, 1);
        due("all merged, each with an empty one", y.buckets(), 1);
        due("all halved", y.depth(), 0);
        due("nothing left", y.size(), 0);
    }

    // Halving waits for every bucket of the full depth, and for merging: empty halves alone do not bring it.
    private static void promise6HalvingWaits() {
        ExtendStore x = split(200, 8);
        putAlike(x, 1, 1, 14);
        due("even ones part in bit 2", x.put(keyOf(4), 1), 0);
        due("odd ones part in bit 2", x.put(keyOf(5), 1), 0);
        due("depth", x.depth(), 3);
        due("buckets", x.buckets(), 6);
        due("even ones merge", x.remove(keyOf(4)), 0);
        due("depth stays", x.depth(), 3);
        due("one less", x.buckets(), 5);
        due("odd ones merge", x.remove(keyOf(5)), 0);
        due("now it is halved", x.depth(), 2);
        due("empty halves stay", x.buckets(), 4);
        due("empty half", x.bucket(keyOf(2), 1), 0);
        due("its local depth", x.bucket(keyOf(2), 0), 2);
        due("a removal elsewhere does not merge them", x.remove(keyOf(1)), 0);
        due("four still", x.buckets(), 4);
    }

    private static void promise7To9Counts() {
        ExtendStore x = split(20, 4);
        due("size", x.size(), 16);
        due("depth", x.depth(), 1);
        due("buckets", x.buckets(), 2);
        x.recover();
        due("size after recovery", x.size(), 0);
        due("depth after recovery", x.depth(), 0);
        due("buckets after recovery", x.buckets(), 1);
        ExtendStore y = downStore();
        due("size when down", y.size(), DOWN);
        due("depth when down", y.depth(), DOWN);
        due("buckets when down", y.buckets(), DOWN);
    }

    private static void promise10Sync() {
        ExtendStore x = new ExtendStore(20, 4);
        x.put(1, 5);
        due("sync", x.sync(), 0);
        due("bucket, directory, master", x.writes(), 3);
        x.put(1, 5);
        due("the same value is a change", x.bucket(1, 2), 0);
        x.sync();
        due("it is written", x.writes(), 6);
        x.put(1, 6);
        x.put(1, 5);
        x.sync();
        due("a value that becomes what it was is written", x.writes(), 9);
        x.put(2, 5);
        x.remove(2);
        x.sync();
        due("a key that came and went is written", x.writes(), 12);
        x.sync();
        due("nothing changed", x.writes(), 12);
        due("sync when down", downStore().sync(), DOWN);
    }

    // Buckets go by first entries to the least free blocks, unchanged ones stay where they are.
    private static void promise10Order() {
        ExtendStore x = split(20, 4);
        due("keys that part in bit 1", x.put(keyOf(2), 1), 0);
        x.sync();
        due("entry 0", x.bucket(keyOf(0), 2), 4);
        due("entry 1", x.bucket(keyOf(1), 2), 5);
        due("entry 2", x.bucket(keyOf(2), 2), 6);
        due("three buckets, directory, master", x.writes(), 5);
        due("free", x.free(), 14);
        x.put(keyOf(2), 2);
        x.sync();
        due("to the least free", x.bucket(keyOf(2), 2), 2);
        due("unchanged at entry 0", x.bucket(keyOf(0), 2), 4);
        due("unchanged at entry 1", x.bucket(keyOf(1), 2), 5);
        due("bucket, directory, master", x.writes(), 8);
        x.put(keyOf(2), 3);
        x.put(keyOf(1), 3);
        x.sync();
        due("entry 1 before entry 2", x.bucket(keyOf(1), 2), 6);
        due("2, 3, 4, 5, 6 and 7 but 6 and 7 were taken", x.bucket(keyOf(2), 2), 7);
        due("directory to 8", x.writes(), 12);
        x.put(keyOf(0), 3);
        x.sync();
        due("2 is free again", x.bucket(keyOf(0), 2), 2);
    }

    // A directory of more than one block is written whole at every sync.
    private static void promise10LargeDirectory() {
        int[][] bitAndDirectory = {{0, 1}, {4, 1}, {5, 2}, {6, 4}, {7, 8}};
        for (int[] row : bitAndDirectory) {
            ExtendStore x = new ExtendStore(200, 8);
            putAlike(x, 0, 0, 15);
            x.put(keyOf(1 << row[0]), 1);
            x.sync();
            int buckets = row[0] + 2;
            due("buckets, directory, master", x.writes(), buckets + row[1] + 1);
            due("free", x.free(), 198 - buckets - row[1]);
            x.put(keyOf(0), 1);
            x.sync();
            due("one bucket, directory, master", x.writes(), buckets + 1 + 2 * (row[1] + 1));
            due("free as before", x.free(), 198 - buckets - row[1]);
        }
    }

    private static void promise10Refused() {
        ExtendStore x = split(8, 4);
        due("part in bit 1", x.put(keyOf(2), 1), 0);
        due("three buckets and a directory in four blocks", x.sync(), 0);
        due("two free", x.free(), 2);
        x.put(keyOf(0), 1);
        x.put(keyOf(1), 1);
        x.crashAfter(1);
        due("two buckets and a directory in two blocks", x.sync(), NO_ROOM);
        due("nothing is written", x.writes(), 5);
        due("what is refused stays changed", x.bucket(keyOf(0), 2), 0);
        due("and stays", x.get(keyOf(1)), 1);
        due("free as before", x.free(), 2);
        x.crashAfter(0);
        due("refused again", x.sync(), NO_ROOM);
        x.recover();
        due("as it was synced", x.get(keyOf(1)), 100);
        x.put(keyOf(0), 1);
        due("one bucket and a directory in two blocks", x.sync(), 0);
    }

    private static void promise11CrashAfter() {
        for (int n = 1; n <= 5; n++) {
            ExtendStore x = new ExtendStore(20, 4);
            x.put(1, 5);
            x.crashAfter(n);
            due("three writes, the crash at " + n, x.sync(), n <= 3 ? DOWN : 0);
            due("writes before it", x.writes(), Math.min(n - 1, 3));
            if (n > 3) {
                x.put(1, 6);
                due("the count goes on in the next sync", x.sync(), DOWN);
                due("writes before it", x.writes(), n - 1);
            }
            x.recover();
            due("as the last master tells", x.get(1), n > 3 ? 5 : 0);
            x.put(1, 7);
            due("a crash comes once", x.sync(), 0);
            due("get", x.get(1), 7);
        }
    }

    private static void promise11CrashSetAgain() {
        int[] none = {0, -1, Integer.MIN_VALUE};
        for (int n : none) {
            ExtendStore x = new ExtendStore(20, 4);
            x.crashAfter(1);
            x.crashAfter(n);
            x.put(1, 5);
            due("none, since n is below 1", x.sync(), 0);
        }
        ExtendStore x = new ExtendStore(20, 4);
        x.crashAfter(1);
        x.crashAfter(Integer.MAX_VALUE);
        x.put(1, 5);
        due("what was set before does not count", x.sync(), 0);
        x.crashAfter(2);
        x.put(1, 6);
        due("from now on", x.sync(), DOWN);
        due("one write more", x.writes(), 4);

        ExtendStore y = downStore();
        y.crashAfter(1);
        y.recover();
        y.put(1, 12);
        due("nothing came of it when down", y.sync(), 0);
    }

    private static void promise12RecoverEndsCrash() {
        int[] set = {1, 2, 3, Integer.MAX_VALUE};
        for (int n : set) {
            ExtendStore x = new ExtendStore(20, 4);
            x.crashAfter(n);
            due("recover before the crash came", x.recover(), 0);
            for (int v = 1; v <= 3; v++) {
                x.put(1, v);
                due("no crash any more", x.sync(), 0);
            }
            due("all was written", x.writes(), 9);
        }
        ExtendStore part = new ExtendStore(20, 4);
        part.crashAfter(4);
        part.put(1, 5);
        due("three of four writes", part.sync(), 0);
        part.recover();
        due("format after the recovery", part.format(), 0);

        ExtendStore format = new ExtendStore(0, 0);
        format.crashAfter(2);
        due("format is no recovery", format.format(), DOWN);

        ExtendStore later = new ExtendStore(20, 4);
        later.crashAfter(1);
        later.recover();
        later.crashAfter(2);
        later.put(1, 5);
        due("a crash set behind the recovery comes", later.sync(), DOWN);
        due("one write before it", later.writes(), 1);
    }

    private static void promise12Recover() {
        ExtendStore x = downStore();
        due("recover", x.recover(), 0);
        due("as synced", x.get(1), 10);
        due("size", x.size(), 1);
        x.put(1, 12);
        x.put(2, 2);
        due("recover when not down", x.recover(), 0);
        due("what was not synced is lost", x.get(1), 10);
        due("the key too", x.has(2), false);
        due("nothing is changed then", x.bucket(1, 2), 4);
        int writes = x.writes();
        due("sync then", x.sync(), 0);
        due("writes nothing", x.writes(), writes);

        ExtendStore y = split(20, 4);
        y.sync();
        removeAlike(y, 0, 0, 15);
        due("merged", y.buckets(), 1);
        y.crashAfter(3);
        due("crash at the master", y.sync(), DOWN);
        y.recover();
        due("depth", y.depth(), 1);
        due("buckets", y.buckets(), 2);
        due("size", y.size(), 16);
        for (int i = 0; i < 15; i++) {
            due("each key is back", y.get(keyOf(i << 12)), i);
        }
        due("block of entry 0", y.bucket(keyOf(0), 2), 4);
        due("block of entry 1", y.bucket(keyOf(1), 2), 5);
        due("free", y.free(), 15);

        ExtendStore z = new ExtendStore(20, 4);
        due("recover of a new store", z.recover(), 0);
        due("block", z.bucket(0, 2), 2);
    }

    private static void promise13Writes() {
        ExtendStore x = downStore();
        due("writes when down", x.writes(), 3);
        x.recover();
        due("writes after recovery", x.writes(), 3);
        x.get(1);
        x.put(4, 4);
        due("a change alone writes nothing", x.writes(), 3);
        x.format();
        due("format counts on", x.writes(), 6);
    }

    private static void promise14Free() {
        ExtendStore x = split(20, 4);
        due("only SYNCED counts", x.free(), 16);
        x.sync();
        due("two buckets and a directory", x.free(), 15);
        removeAlike(x, 0, 0, 15);
        due("not synced yet", x.free(), 15);
        x.sync();
        due("one bucket and a directory", x.free(), 16);
        due("free when down", downStore().free(), DOWN);
    }

    private static void promise15Bucket() {
        ExtendStore x = split(20, 4);
        due("local depth", x.bucket(keyOf(0), 0), 1);
        due("keys", x.bucket(keyOf(0), 1), 15);
        due("keys, asked with a key that has no value", x.bucket(keyOf(1 | 99 << 12), 1), 1);
        due("changed", x.bucket(keyOf(0), 2), 0);
        x.sync();
        due("block", x.bucket(keyOf(0), 2), 4);
        due("block of the other", x.bucket(keyOf(1), 2), 5);
        int[] others = {3, -1, 4, Integer.MAX_VALUE, Integer.MIN_VALUE};
        for (int what : others) {
            due("what " + what, x.bucket(keyOf(0), what), 0);
            due("what " + what + " when down", downStore().bucket(1, what), DOWN);
        }
        for (int what = 0; what < 3; what++) {
            due("what " + what + " when down", downStore().bucket(1, what), DOWN);
        }
    }

    public static void main(String[] args) {
        due("NO_ROOM", ExtendStore.NO_ROOM, NO_ROOM);
        due("NO_KEY", ExtendStore.NO_KEY, NO_KEY);
        due("DOWN", ExtendStore.DOWN, DOWN);
        promise1NewObject();
        promise1MostDepth();
        promise2Format();
        promise2FormatInTheLeastRoom();
        promise3Put();
        promise3FullBucket();
        promise3Split();
        promise3SplitInTheLeastRoom();
        promise4And5GetAndHas();
        promise6Remove();
        promise6Merge();
        promise6HalvingWaits();
        promise7To9Counts();
        promise10Sync();
        promise10Order();
        promise10LargeDirectory();
        promise10Refused();
        promise11CrashAfter();
        promise11CrashSetAgain();
        promise12RecoverEndsCrash();
        promise12Recover();
        promise13Writes();
        promise14Free();
        promise15Bucket();
        System.out.println(checked + " answers looked at, " + wrong + " wrong");
        if (wrong != 0) {
            System.exit(1);
        }
    }
}
