// The boundary cases of the disk: promises 2 and 10 to 14, with the terms that they rest on.
// Each test's remark is the document's sentence, or the part of it that names the case.
public final class BoundaryDiskTest extends Boundaries {
    public static void main(String[] args) {
        runEach(BoundaryDiskTest.class);
    }

    // One key, synced so many times with values 1, 2, ..: each sync writes a bucket, a directory block and a master.
    private static ExtendStore synced(int times) {
        ExtendStore x = new ExtendStore(20, 4);
        for (int value = 1; value <= times; value++) {
            due("put " + value, x.put(1, value), 0);
            due("sync " + value, x.sync(), 0);
        }
        return x;
    }

    // Three buckets and a directory in the six blocks of eight, so that two are free, the fewest that there can be.
    private static ExtendStore twoFree() {
        ExtendStore x = parted(8, 8, 0);
        due("sync of two buckets", x.sync(), 0);
        due("a split more", x.put(keyOf(2), 2), 0);
        due("three free for two buckets and a directory", x.sync(), 0);
        due("free", x.free(), 2);
        return x;
    }

    // ---- Promise 2: format

    // "It becomes empty (depth 0, one bucket, new), and a SYNC is made: 0".
    static void promise2FormatOfADeepStore() {
        ExtendStore x = parted(200, 8, 7);
        x.sync();
        due("format", x.format(), 0);
        shape(x, 0, 1, 0);
        due("local depth", x.bucket(keyOf(0), 0), 0);
        due("get", x.get(keyOf(0)), 0);
        due("free", x.free(), 196);
        x.recover();
        shape(x, 0, 1, 0);
    }

    // "one bucket, new": it is written also when the store was empty and synced.
    static void promise2FormatOfAnEmptyStore() {
        ExtendStore x = new ExtendStore(8, 0);
        due("format", x.format(), 0);
        due("bucket, directory, master", x.writes(), 3);
        due("block", x.bucket(0, 2), 4);
        due("again", x.format(), 0);
        due("written again", x.writes(), 6);
        due("block", x.bucket(0, 2), 2);
    }

    // "and a SYNC is made": nothing is left to sync.
    static void promise2NothingToSyncAfterFormat() {
        ExtendStore x = parted(20, 4, 0);
        x.format();
        int writes = x.writes();
        due("sync", x.sync(), 0);
        due("writes", x.writes(), writes);
    }

    // "NO_ROOM when that is refused": it needs two blocks, and each sync leaves two free or more, so that the fewest
    // free blocks that there can be are enough.
    static void promise2FormatInTheFewestFreeBlocks() {
        ExtendStore x = twoFree();
        due("format", x.format(), 0);
        shape(x, 0, 1, 0);
        due("free", x.free(), 4);
    }

    // "and a SYNC is made": also when a sync of what stood before was refused.
    static void promise2FormatAfterARefusedSync() {
        ExtendStore x = twoFree();
        x.put(keyOf(0), 1);
        x.put(keyOf(1), 1);
        due("sync", x.sync(), NO_ROOM);
        due("format", x.format(), 0);
        shape(x, 0, 1, 0);
        x.recover();
        shape(x, 0, 1, 0);
    }

    // "DOWN": it crashes at each of its three writes, and the store is as before it; not at the fourth.
    static void promise2FormatThatCrashes() {
        for (int n = 1; n <= 4; n++) {
            ExtendStore x = synced(1);
            x.crashAfter(n);
            due("format with a crash at " + n, x.format(), n <= 3 ? DOWN : 0);
            due("writes", x.writes(), 3 + Math.min(3, n - 1));
            x.recover();
            due("size", x.size(), n <= 3 ? 1 : 0);
            due("get", x.get(1), n <= 3 ? 1 : 0);
        }
    }

    // "DOWN (before all else)": when down it does not become empty and writes nothing.
    static void promise2FormatWhenDown() {
        ExtendStore x = downStore();
        due("format", x.format(), DOWN);
        due("writes", x.writes(), 3);
        x.recover();
        due("get", x.get(1), 10);
        due("size", x.size(), 1);
    }

    // ---- Promise 10: sync

    // "if nothing changed since the last one ...: nothing is written": behind each call that changes nothing.
    static void promise10NothingChanged() {
        ExtendStore x = full(20, 0);
        x.sync();
        int writes = x.writes();
        x.get(5);
        x.has(5);
        x.bucket(5, 2);
        due("refused put", x.put(keyOf(1), 1), NO_ROOM);
        due("refused removal", x.remove(keyOf(1)), NO_KEY);
        due("sync", x.sync(), 0);
        due("sync again", x.sync(), 0);
        due("writes", x.writes(), writes);
        due("block", x.bucket(0, 2), 4);
        x.put(alike(0, 0), 1);
        x.recover();
        due("sync after a recovery", x.sync(), 0);
        due("writes", x.writes(), writes);
    }

    // "nothing is written": so that no crash comes of it, and none is counted down.
    static void promise10NothingChangedDoesNotCrash() {
        ExtendStore x = synced(1);
        x.crashAfter(1);
        for (int i = 0; i < 5; i++) {
            due("sync", x.sync(), 0);
        }
        x.put(1, 2);
        due("the next write", x.sync(), DOWN);
        due("writes", x.writes(), 3);
    }

    // "nothing is written": it is not refused, however few blocks are free.
    static void promise10NothingChangedIsNotRefused() {
        ExtendStore x = parted(8, 8, 1);
        due("sync", x.sync(), 0);
        due("fewer free than buckets", x.free(), 2);
        due("sync", x.sync(), 0);
    }

    // "a value that becomes what it was is a change": by one put, by two, by a removal and a put.
    static void promise10ValueThatBecomesWhatItWas() {
        ExtendStore x = synced(1);
        x.put(1, 1);
        due("sync of the same value", x.sync(), 0);
        due("writes", x.writes(), 6);
        x.put(1, 2);
        x.put(1, 1);
        due("sync of a value there and back", x.sync(), 0);
        due("writes", x.writes(), 9);
        x.remove(1);
        x.put(1, 1);
        due("sync of a key there again", x.sync(), 0);
        due("writes", x.writes(), 12);
        x.put(2, 2);
        x.remove(2);
        due("sync of a key that came and went", x.sync(), 0);
        due("writes", x.writes(), 15);
    }

    // "each bucket that changed": the others are not written, and stay in their blocks.
    static void promise10UnchangedBucketsStay() {
        ExtendStore x = parted(40, 8, 3);
        x.sync();
        int writes = x.writes();
        x.put(keyOf(4), 1);
        due("sync", x.sync(), 0);
        due("bucket, directory, master", x.writes(), writes + 3);
        due("entry 0", x.bucket(keyOf(0), 2), 4);
        due("entry 1", x.bucket(keyOf(1), 2), 5);
        due("entry 2", x.bucket(keyOf(2), 2), 6);
        due("entry 4", x.bucket(keyOf(4), 2), 2);
        due("entry 8", x.bucket(keyOf(8), 2), 8);
    }

    // "or became another one by splitting": both halves, also the empty one and the one whose keys are as they were.
    static void promise10BucketsThatSplitAreWritten() {
        ExtendStore x = full(20, 4);
        x.sync();
        x.put(keyOf(2), 1);
        due("sync", x.sync(), 0);
        due("three buckets, directory, master", x.writes(), 3 + 5);
        due("free", x.free(), 18 - 4);
    }

    // "in the order of their first entries": not in that of their changes, and a bucket goes by its first entry alone.
    static void promise10OrderOfFirstEntries() {
        ExtendStore x = parted(40, 8, 2);
        putAlike(x, 1, 0, FULL);
        due("entry 1 parts from 3", x.put(keyOf(3), 3), 0);
        x.put(keyOf(4), 4);
        due("sync", x.sync(), 0);
        for (int entry = 0; entry < 5; entry++) {
            due("entry " + entry, x.bucket(keyOf(entry), 2), 4 + entry);
        }
        due("entry 5 is entry 1's", x.bucket(keyOf(5), 2), 5);
        x.put(keyOf(3), 1);
        x.put(keyOf(2), 1);
        x.put(keyOf(1), 1);
        due("sync", x.sync(), 0);
        due("entry 1 first", x.bucket(keyOf(1), 2), 2);
        due("then entry 2", x.bucket(keyOf(2), 2), 3);
        due("then entry 3", x.bucket(keyOf(3), 2), 10);
    }

    // "to the least block that is free (neither a master ...": 0 and 1 are never taken.
    static void promise10MastersAreNeverTaken() {
        ExtendStore x = new ExtendStore(8, 0);
        for (int i = 0; i < 12; i++) {
            x.put(1, i);
            due("sync", x.sync(), 0);
            due("block", x.bucket(1, 2), i % 2 == 0 ? 4 : 2);
        }
    }

    // "nor SYNCED": what the master tells is not taken, buckets and directory alike, though it is left behind.
    static void promise10SyncedBlocksAreNotTaken() {
        ExtendStore x = parted(20, 4, 0);
        x.sync();
        due("entry 0", x.bucket(keyOf(0), 2), 4);
        due("entry 1", x.bucket(keyOf(1), 2), 5);
        x.put(keyOf(0), 1);
        x.put(keyOf(1), 1);
        x.put(keyOf(2), 1);
        due("sync", x.sync(), 0);
        due("entry 0", x.bucket(keyOf(0), 2), 2);
        due("entry 1", x.bucket(keyOf(1), 2), 3);
        due("4 and 5 are the old buckets, 6 the old directory", x.bucket(keyOf(2), 2), 7);
    }

    // "nor SYNCED": of a directory of eight blocks none is taken.
    static void promise10SyncedDirectoryIsNotTaken() {
        ExtendStore x = parted(200, 8, 7);
        x.sync();
        for (int entry = 0; entry < 3; entry++) {
            x.put(keyOf(1 << entry), 1);
        }
        x.sync();
        due("2", x.bucket(keyOf(1), 2), 2);
        due("3", x.bucket(keyOf(2), 2), 3);
        due("4 to 12 are buckets, 13 to 20 the directory", x.bucket(keyOf(4), 2), 21);
    }

    // "SYNCED" is what the last master tells: what a sync left behind is free for the next one.
    static void promise10BlocksLeftBehindAreFree() {
        ExtendStore x = synced(2);
        due("block", x.bucket(1, 2), 2);
        x.put(1, 3);
        x.sync();
        due("block of the first sync", x.bucket(1, 2), 4);
    }

    // "then the directory's blocks, all of them, likewise": eight at depth 8, though one bucket changed; and they are
    // behind the buckets.
    static void promise10AllDirectoryBlocksAreWritten() {
        ExtendStore x = parted(200, 8, 7);
        x.sync();
        due("9 buckets, 8 directory blocks, master", x.writes(), 18);
        x.put(keyOf(1), 1);
        x.sync();
        due("a bucket, 8 directory blocks, master", x.writes(), 28);
        due("bucket to 2", x.bucket(keyOf(1), 2), 2);
        due("free", x.free(), 198 - 9 - 8);
        for (int entry = 0; entry < 3; entry++) {
            x.put(keyOf(1 << entry), 1);
        }
        x.sync();
        due("3 and 21 to 27 hold the directory, so 5 is next", x.bucket(keyOf(1), 2), 5);
        due("then 13", x.bucket(keyOf(2), 2), 13);
        due("then 14", x.bucket(keyOf(4), 2), 14);
    }

    // "then the master of which it is the turn (1 first, then 0, by turns)": the last one told survives each crash.
    static void promise10MastersByTurns() {
        for (int times = 0; times <= 5; times++) {
            ExtendStore x = synced(times);
            x.put(1, 99);
            x.crashAfter(3);
            due("crash at the master, sync " + (times + 1), x.sync(), DOWN);
            x.recover();
            due("value of sync " + times, x.get(1), times);
            x.put(1, 98);
            due("the next sync", x.sync(), 0);
            x.recover();
            due("its value", x.get(1), 98);
        }
    }

    // "It is refused ... when there are not free blocks enough": just as many are enough, with 1, 2 and 8 directory
    // blocks; the last block of the disk is used then.
    static void promise10JustFreeBlocksEnough() {
        int[][] bitAndBlocks = {{1, 8}, {2, 9}, {4, 11}, {5, 13}, {6, 16}, {7, 21}};
        for (int[] row : bitAndBlocks) {
            ExtendStore x = parted(row[1], 8, row[0]);
            due("sync with " + row[1] + " blocks", x.sync(), 0);
            due("the old bucket and directory are free", x.free(), 2);
            due("entry 0", x.bucket(keyOf(0), 2), 4);
            due("the last bucket", x.bucket(keyOf(1 << row[0]), 2), 4 + row[0] + 1);
        }
    }

    // The same: one too few; "nothing is written", nothing else changes, and what changed is changed still.
    static void promise10OneFreeBlockTooFew() {
        int[][] bitAndBlocks = {{2, 8}, {4, 10}, {5, 12}, {6, 15}, {7, 20}};
        for (int[] row : bitAndBlocks) {
            ExtendStore x = parted(row[1], 8, row[0]);
            int[] keys = {keyOf(0), keyOf(1 << row[0]), keyOf(1)};
            String before = seen(x, keys);
            due("sync with " + row[1] + " blocks", x.sync(), NO_ROOM);
            due("writes", x.writes(), 0);
            due("after the refusal", seen(x, keys), before);
            due("refused again", x.sync(), NO_ROOM);
            x.recover();
            shape(x, 0, 1, 0);
        }
    }

    // "free blocks enough" is for the buckets that changed, not for all.
    static void promise10OnlyChangedBucketsNeedBlocks() {
        ExtendStore x = parted(8, 8, 1);
        due("sync", x.sync(), 0);
        due("free", x.free(), 2);
        x.put(keyOf(0), 1);
        due("one bucket and the directory", x.sync(), 0);
        x.put(keyOf(0), 2);
        x.put(keyOf(1), 2);
        due("two buckets and the directory", x.sync(), NO_ROOM);
    }

    // "It is refused": not for good; when fewer buckets are left to write, it is made.
    static void promise10RefusedSyncIsMadeLater() {
        ExtendStore x = parted(8, 8, 2);
        due("four buckets and a directory in four blocks", x.sync(), NO_ROOM);
        due("merge", x.remove(keyOf(4)), 0);
        due("three buckets and a directory", x.sync(), 0);
        due("writes", x.writes(), 5);
        x.recover();
        shape(x, 2, 3, FULL);
    }

    // "It is refused (nothing is written)": so that no crash comes of it.
    static void promise10RefusedSyncDoesNotCrash() {
        ExtendStore x = parted(8, 8, 2);
        x.crashAfter(1);
        due("refused", x.sync(), NO_ROOM);
        due("not down", x.depth(), 3);
        due("merge", x.remove(keyOf(4)), 0);
        due("the next write", x.sync(), DOWN);
        due("writes", x.writes(), 0);
    }

    // "DOWN (also when it crashes)": at the first write, at the last, and ever after.
    static void promise10SyncThatCrashes() {
        for (int n = 1; n <= 3; n++) {
            ExtendStore x = synced(1);
            x.put(1, 2);
            x.crashAfter(n);
            due("sync with a crash at " + n, x.sync(), DOWN);
            due("sync again", x.sync(), DOWN);
            due("writes", x.writes(), 3 + n - 1);
        }
    }

    // "DOWN (before all else)": also when nothing changed, and when the sync would be refused.
    static void promise10SyncWhenDown() {
        ExtendStore x = twoFree();
        x.put(keyOf(0), 1);
        x.crashAfter(1);
        due("sync", x.sync(), DOWN);
        due("a put that would make it too much", x.put(keyOf(1), 1), DOWN);
        due("sync when down", x.sync(), DOWN);
        x.recover();
        due("nothing to write", x.sync(), 0);
    }

    // ---- Promise 11: crashAfter

    // "at the n-th write from now on (1 the next one)".
    static void promise11NextWrite() {
        ExtendStore x = synced(1);
        x.put(1, 2);
        x.crashAfter(1);
        due("sync", x.sync(), DOWN);
        due("writes", x.writes(), 3);
        x.recover();
        due("get", x.get(1), 1);
    }

    // "the n-th write from then on and all behind it are lost": the writes before it are not.
    static void promise11WritesBeforeTheNth() {
        for (int n = 1; n <= 9; n++) {
            ExtendStore x = parted(200, 8, 4);
            x.crashAfter(n);
            due("six buckets, directory, master, crash at " + n, x.sync(), n <= 8 ? DOWN : 0);
            due("writes", x.writes(), n - 1);
            x.recover();
            due("size", x.size(), n <= 8 ? 0 : 16);
        }
    }

    // "the n-th write": the one behind a sync's last counts for the next sync, or a format.
    static void promise11CountsOverSyncs() {
        ExtendStore x = new ExtendStore(20, 4);
        x.crashAfter(5);
        x.put(1, 1);
        due("three writes", x.sync(), 0);
        due("nothing to write", x.sync(), 0);
        x.put(1, 2);
        due("the fifth", x.sync(), DOWN);
        due("writes", x.writes(), 4);
        x.recover();
        due("get", x.get(1), 1);

        ExtendStore y = new ExtendStore(20, 4);
        y.crashAfter(4);
        due("three writes", y.format(), 0);
        due("the fourth", y.format(), DOWN);
    }

    // "from now on": what was written before does not count.
    static void promise11FromNowOn() {
        ExtendStore x = synced(2);
        x.crashAfter(3);
        x.put(1, 3);
        due("the third from now on", x.sync(), DOWN);
        due("writes", x.writes(), 8);
    }

    // "none, if n is below 1".
    static void promise11NoneBelow1() {
        for (int n : new int[] {0, -1, -3, Integer.MIN_VALUE}) {
            ExtendStore x = new ExtendStore(20, 4);
            x.crashAfter(n);
            for (int value = 1; value <= 3; value++) {
                x.put(1, value);
                due("sync after crashAfter(" + n + ")", x.sync(), 0);
            }
            due("writes", x.writes(), 9);
        }
    }

    // "none, if n is below 1. What was set before does not count": it takes back what was set.
    static void promise11Below1TakesBack() {
        for (int n : new int[] {0, -1, Integer.MIN_VALUE}) {
            ExtendStore x = new ExtendStore(20, 4);
            x.crashAfter(2);
            x.crashAfter(n);
            x.put(1, 1);
            due("sync after crashAfter(" + n + ")", x.sync(), 0);
            due("writes", x.writes(), 3);
        }
    }

    // "What was set before does not count": neither an earlier crash nor a later one.
    static void promise11SetAgain() {
        ExtendStore later = new ExtendStore(20, 4);
        later.crashAfter(1);
        later.crashAfter(4);
        later.put(1, 1);
        due("the first does not come", later.sync(), 0);
        later.put(1, 2);
        due("the fourth does", later.sync(), DOWN);

        ExtendStore earlier = new ExtendStore(20, 4);
        earlier.crashAfter(4);
        earlier.crashAfter(2);
        earlier.put(1, 1);
        due("the second comes", earlier.sync(), DOWN);
        due("writes", earlier.writes(), 1);
    }

    // "at the n-th write": the largest int is far off.
    static void promise11LargestN() {
        ExtendStore x = new ExtendStore(20, 4);
        x.crashAfter(Integer.MAX_VALUE);
        for (int value = 1; value <= 3; value++) {
            x.put(1, value);
            due("sync", x.sync(), 0);
        }
    }

    // "and the store is DOWN from then on, until RECOVERY": not before the write, and each call then.
    static void promise11DownFromThenOn() {
        ExtendStore x = synced(1);
        x.crashAfter(1);
        due("not yet", x.get(1), 1);
        due("a change is no write", x.put(1, 2), 0);
        due("the write", x.sync(), DOWN);
        due("put", x.put(1, 3), DOWN);
        due("get", x.get(1), DOWN);
        due("has", x.has(1), false);
        due("remove", x.remove(1), DOWN);
        due("size", x.size(), DOWN);
        due("depth", x.depth(), DOWN);
        due("buckets", x.buckets(), DOWN);
        due("sync", x.sync(), DOWN);
        due("format", x.format(), DOWN);
        due("free", x.free(), DOWN);
        due("bucket", x.bucket(1, 0), DOWN);
        due("writes is told", x.writes(), 3);
        due("recover", x.recover(), 0);
        due("get after it", x.get(1), 1);
    }

    // "Nothing comes of it when it is down".
    static void promise11NothingWhenDown() {
        for (int n : new int[] {1, 2, 3, 0, -1, Integer.MAX_VALUE}) {
            ExtendStore x = downStore();
            x.crashAfter(n);
            due("down still", x.size(), DOWN);
            x.recover();
            for (int value = 1; value <= 3; value++) {
                x.put(1, value);
                due("sync", x.sync(), 0);
            }
        }
    }

    // "A CRASH": it comes once.
    static void promise11ComesOnce() {
        ExtendStore x = downStore();
        x.recover();
        for (int value = 1; value <= 4; value++) {
            x.put(1, value);
            due("sync", x.sync(), 0);
            due("writes", x.writes(), 3 + 3 * value);
        }
    }

    // ---- Promise 12: recover

    // "it is as the last master tells that was written": splits, merges and values of a lost sync are undone.
    static void promise12AsTheLastMasterTells() {
        ExtendStore x = parted(40, 8, 2);
        x.sync();
        int[] keys = {alike(0, 0), alike(0, 14), keyOf(4), keyOf(1), keyOf(2), keyOf(3)};
        String before = seen(x, keys);
        for (int n = 1; n <= 3; n++) {
            x.put(keyOf(2), 5);
            due("merge", x.remove(keyOf(4)), 0);
            removeAlike(x, 0, 0, 3);
            x.crashAfter(n);
            due("crash at " + n, x.sync(), DOWN);
            due("recover", x.recover(), 0);
            due("but for the writes", seen(x, keys).replaceFirst("writes \\d+", ""),
                before.replaceFirst("writes \\d+", ""));
        }
    }

    // "also when it is not down: what was not synced is lost": puts, removals, splits, merges, a format's old keys.
    static void promise12WhenNotDown() {
        ExtendStore x = parted(40, 8, 1);
        x.sync();
        int[] keys = {alike(0, 0), alike(0, 14), keyOf(1), keyOf(2), keyOf(5)};
        String before = seen(x, keys);
        putAlike(x, 1, 0, FULL);
        due("split", x.put(keyOf(1 | 4), 1), 0);
        due("recover", x.recover(), 0);
        due("the split is lost", seen(x, keys), before);
        due("merge", x.remove(keyOf(2)), 0);
        due("recover", x.recover(), 0);
        due("the merge is lost", seen(x, keys), before);
        x.put(alike(0, 0), 7);
        due("recover", x.recover(), 0);
        due("the value is lost", seen(x, keys), before);
        due("format", x.format(), 0);
        due("recover", x.recover(), 0);
        due("what format synced is not lost", x.size(), 0);
    }

    // "RECOVERY": of a store that never was synced by a call, and twice.
    static void promise12NewStoreAndTwice() {
        ExtendStore x = new ExtendStore(8, 0);
        due("new", x.recover(), 0);
        due("block", x.bucket(0, 2), 2);
        x.put(1, 1);
        due("changed", x.recover(), 0);
        due("twice", x.recover(), 0);
        shape(x, 0, 1, 0);
        due("free", x.free(), 4);
        due("writes", x.writes(), 0);
    }

    // "until RECOVERY": a crash that is set and has not come is over, down to the last write before it.
    static void promise12TakesBackACrashThatHasNotCome() {
        for (int n = 1; n <= 6; n++) {
            ExtendStore x = new ExtendStore(20, 4);
            x.crashAfter(n);
            if (n > 3) {
                due("three writes of " + n, x.format(), 0);
            }
            due("recover", x.recover(), 0);
            int writes = x.writes();
            for (int value = 1; value <= 3; value++) {
                x.put(1, value);
                due("sync", x.sync(), 0);
            }
            due("writes", x.writes(), writes + 9);
        }
    }

    // "SYNCED" after a crash: the blocks that the lost sync had taken are free again.
    static void promise12BlocksOfALostSyncAreFree() {
        for (int n = 1; n <= 3; n++) {
            ExtendStore x = synced(1);
            x.put(1, 2);
            x.crashAfter(n);
            due("sync", x.sync(), DOWN);
            x.recover();
            due("free", x.free(), 16);
            due("block", x.bucket(1, 2), 4);
            x.put(1, 3);
            due("sync", x.sync(), 0);
            due("block that was taken before", x.bucket(1, 2), 2);
        }
    }

    // "what was not synced is lost": behind a refused sync too.
    static void promise12AfterARefusedSync() {
        ExtendStore x = twoFree();
        int[] keys = {alike(0, 0), keyOf(1), keyOf(2)};
        String before = seen(x, keys);
        x.put(keyOf(0), 1);
        x.put(keyOf(1), 7);
        due("sync", x.sync(), NO_ROOM);
        due("recover", x.recover(), 0);
        due("as synced", seen(x, keys), before);
    }

    // ---- Promise 13: writes

    // "How many blocks were written in all": lost writes were not.
    static void promise13LostWritesAreNotCounted() {
        ExtendStore x = synced(1);
        x.put(1, 2);
        x.crashAfter(2);
        x.sync();
        due("one of three", x.writes(), 4);
        x.sync();
        x.format();
        due("none when down", x.writes(), 4);
    }

    // "in all": neither a recovery nor a format begins anew.
    static void promise13CountsInAll() {
        ExtendStore x = downStore();
        due("when down it is told too", x.writes(), 3);
        x.recover();
        due("recovery", x.writes(), 3);
        x.format();
        due("format", x.writes(), 6);
    }

    // "How many blocks were written": by refused syncs and by changes none.
    static void promise13NoneByChangesAndRefusals() {
        ExtendStore x = parted(8, 8, 2);
        due("changes", x.writes(), 0);
        due("sync", x.sync(), NO_ROOM);
        due("refused", x.writes(), 0);
    }

    // ---- Promise 14: free

    // "How many blocks are neither masters nor SYNCED": at first all but four.
    static void promise14AtFirst() {
        due("least", new ExtendStore(8, 8).free(), 4);
        due("most", new ExtendStore(200, 8).free(), 196);
    }

    // The same: what changed but was not synced does not count, on the way up and down.
    static void promise14OnlySyncedCounts() {
        ExtendStore x = parted(40, 8, 2);
        due("not synced", x.free(), 36);
        x.sync();
        due("four buckets, a directory block", x.free(), 33);
        x.remove(keyOf(4));
        due("not synced", x.free(), 33);
        x.sync();
        due("three buckets", x.free(), 34);
    }

    // The same: two are the fewest.
    static void promise14Fewest() {
        due("free", twoFree().free(), 2);
    }

    // The same: a refused sync and a crash leave it.
    static void promise14AfterRefusalAndCrash() {
        ExtendStore x = parted(8, 8, 2);
        due("sync", x.sync(), NO_ROOM);
        due("refused", x.free(), 4);
        due("merge", x.remove(keyOf(4)), 0);
        x.crashAfter(5);
        due("crash at the master", x.sync(), DOWN);
        x.recover();
        due("crashed", x.free(), 4);
    }

    // "DOWN".
    static void promise14FreeWhenDown() {
        due("free", downStore().free(), DOWN);
    }

    // ---- The use of one object

    // "An object is used for at most 512 calls": the 512th is answered like the others, on a disk in full use.
    static void promise10LastCallOf512() {
        ExtendStore x = new ExtendStore(8, 8);
        int calls = 0;
        for (int i = 0; calls < 510; i++) {
            due("put", x.put(i % 3, i), 0);
            due("sync", x.sync(), 0);
            calls += 2;
        }
        due("the 511th", x.writes(), 255 * 3);
        due("the 512th", x.get(2), 254);
    }
}
