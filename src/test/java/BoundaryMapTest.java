// The boundary cases of the map: promises 1, 3 to 9 and 15, with the terms that they rest on.
// Each test's remark is the document's sentence, or the part of it that names the case.
public final class BoundaryMapTest extends Boundaries {
    public static void main(String[] args) {
        runEach(BoundaryMapTest.class);
    }

    // ---- Promise 1: A new object

    // "A store with so many blocks, brought to 8 .. 200": too few.
    static void promise1TooFewBlocksBecome8() {
        for (int blocks : new int[] {7, 1, 0, -1, Integer.MIN_VALUE}) {
            ExtendStore x = new ExtendStore(blocks, 8);
            due("free of " + blocks + " blocks", x.free(), 4);
            putAlike(x, 0, 0, FULL);
            due("six blocks hold no six buckets and a directory", x.put(keyOf(1 << 4), 1), NO_ROOM);
            due("but five and a directory", x.put(keyOf(1 << 3), 1), 0);
        }
    }

    // "brought to 8 .. 200": the least stands as it is, and the next one too.
    static void promise1LeastBlocks() {
        due("free of 8 blocks", new ExtendStore(8, 8).free(), 4);
        due("free of 9 blocks", new ExtendStore(9, 8).free(), 5);
    }

    // "brought to 8 .. 200": the most stands as it is, and the one before too.
    static void promise1MostBlocks() {
        due("free of 199 blocks", new ExtendStore(199, 8).free(), 195);
        due("free of 200 blocks", new ExtendStore(200, 8).free(), 196);
    }

    // "brought to 8 .. 200": too many.
    static void promise1TooManyBlocksBecome200() {
        for (int blocks : new int[] {201, 208, 256, Integer.MAX_VALUE}) {
            due("free of " + blocks + " blocks", new ExtendStore(blocks, 8).free(), 196);
        }
    }

    // "MOST DEPTH, brought to 0 .. 8": too small.
    static void promise1MostDepthTooSmallBecomes0() {
        for (int mostDepth : new int[] {-1, -8, Integer.MIN_VALUE}) {
            ExtendStore x = full(200, mostDepth);
            due("depth 1 at most depth " + mostDepth, x.put(keyOf(1), 1), NO_ROOM);
            shape(x, 0, 1, FULL);
        }
    }

    // "MOST DEPTH, brought to 0 .. 8": 0 is no fault, and 1 is not brought to it.
    static void promise1MostDepthLeast() {
        due("depth 1 at most depth 0", full(200, 0).put(keyOf(1), 1), NO_ROOM);
        due("depth 1 at most depth 1", full(200, 1).put(keyOf(1), 1), 0);
        due("depth 2 at most depth 1", full(200, 1).put(keyOf(2), 1), NO_ROOM);
    }

    // "MOST DEPTH, brought to 0 .. 8": 8 is no fault, and 7 is not brought to it.
    static void promise1MostDepthMost() {
        due("depth 8 at most depth 8", full(200, 8).put(keyOf(1 << 7), 1), 0);
        due("depth 7 at most depth 7", full(200, 7).put(keyOf(1 << 6), 1), 0);
        due("depth 8 at most depth 7", full(200, 7).put(keyOf(1 << 7), 1), NO_ROOM);
    }

    // "MOST DEPTH, brought to 0 .. 8": too large.
    static void promise1MostDepthTooLargeBecomes8() {
        for (int mostDepth : new int[] {9, 31, 32, 64, Integer.MAX_VALUE}) {
            due("depth 8 at most depth " + mostDepth, full(200, mostDepth).put(keyOf(1 << 7), 1), 0);
            ExtendStore x = full(200, mostDepth);
            due("depth 9 at most depth " + mostDepth, x.put(keyOf(1 << 8), 1), NO_ROOM);
            shape(x, 0, 1, FULL);
        }
    }

    // "it is empty"; "At first: depth 0, one bucket, local depth 0".
    static void promise1NewIsEmpty() {
        ExtendStore x = new ExtendStore(20, 4);
        shape(x, 0, 1, 0);
        due("local depth", x.bucket(0, 0), 0);
        due("keys of the bucket", x.bucket(0, 1), 0);
        due("has", x.has(0), false);
        due("get", x.get(0), 0);
    }

    // "and SYNCED": a new store has nothing to write, and a recovery finds it.
    static void promise1NewIsSynced() {
        ExtendStore x = new ExtendStore(20, 4);
        due("sync", x.sync(), 0);
        due("writes", x.writes(), 0);
        x.put(1, 1);
        due("recover", x.recover(), 0);
        shape(x, 0, 1, 0);
        due("block", x.bucket(0, 2), 2);
    }

    // "its bucket in block 2".
    static void promise1BucketInBlock2() {
        due("block", new ExtendStore(8, 0).bucket(0, 2), 2);
        due("block", new ExtendStore(200, 8).bucket(-1, 2), 2);
    }

    // "its directory in block 3": the first sync goes past it, the second one may take it.
    static void promise1DirectoryInBlock3() {
        ExtendStore x = parted(20, 4, 0);
        x.sync();
        due("2 and 3 are not free at first: entry 0", x.bucket(keyOf(0), 2), 4);
        due("2 and 3 are not free at first: entry 1", x.bucket(keyOf(1), 2), 5);
        x.put(keyOf(0), 1);
        x.put(keyOf(1), 1);
        x.sync();
        due("then both are: entry 0", x.bucket(keyOf(0), 2), 2);
        due("then both are: entry 1", x.bucket(keyOf(1), 2), 3);
    }

    // "by master 0": the first sync writes the other one, so a crash there leaves the new store.
    static void promise1FirstMasterIsKeptByTheFirstSync() {
        ExtendStore x = new ExtendStore(20, 4);
        x.put(1, 1);
        x.crashAfter(3);
        due("crash at the first master", x.sync(), DOWN);
        x.recover();
        shape(x, 0, 1, 0);
        due("block", x.bucket(0, 2), 2);
        due("free", x.free(), 16);
    }

    // "no write is counted".
    static void promise1NoWriteIsCounted() {
        due("writes", new ExtendStore(20, 4).writes(), 0);
    }

    // ---- Promise 3: put, and how buckets split

    // "k times 9E3779B1 (hexadecimal; it wraps), that xor itself shifted right by 15": the mixings of these keys were
    // reckoned with whole numbers of any size, outside this program.
    static void promise3MixingWraps() {
        int[][] keysAndMixings = {{0, 0}, {1, 0x9E3645DF}, {2, 0x3C6E8BBF}, {-1, 0x61C845DE}, {-2, 0xC3908BBC},
            {Integer.MAX_VALUE, 0xE1C945DE}, {Integer.MIN_VALUE, 0x80010000}, {0x9E3779B1, 0xFFE733AC},
            {65536, 0x79B1F362}, {-65536, 0x864E0C9E}, {12345678, 0x97FE0B10}, {1 << 30, 0x40008000}};
        for (int[] row : keysAndMixings) {
            ExtendStore x = new ExtendStore(200, 8);
            due("put of key " + row[0], x.put(row[0], 7), 0);
            putAlike(x, row[1], 1, FULL);
            due("a key that parts from it in bit 7 alone", x.put(keyOf(row[1] ^ 1 << 7), 1), 0);
            due("local depth of key " + row[0], x.bucket(row[0], 0), 8);
            due("it is with the fourteen alike", x.bucket(row[0], 1), FULL);
            due("its value", x.get(row[0]), 7);
        }
    }

    // "a key's is that of the DEPTH lowest bits of its mixing": at depth 8, each entry's number in turn.
    static void promise3LowestBitsChooseTheEntry() {
        ExtendStore x = parted(200, 8, 7);
        for (int mixing = 0; mixing < 256; mixing++) {
            int lowestBit = mixing == 0 ? 8 : Integer.numberOfTrailingZeros(mixing);
            int key = keyOf(mixing | 0xABCDE00);
            due("local depth at entry " + mixing, x.bucket(key, 0), Math.min(8, lowestBit + 1));
        }
        due("writes of 9 buckets, 8 directory blocks, the master", x.sync() + x.writes(), 18);
    }

    // "A key more whose bucket has 15 keys": fourteen and one more are no such case.
    static void promise3FifteenKeysFit() {
        ExtendStore x = new ExtendStore(20, 4);
        for (int i = 0; i < FULL; i++) {
            due("put " + i, x.put(keyOf(i), i), 0);
            shape(x, 0, 1, i + 1);
            due("keys of the bucket", x.bucket(0, 1), i + 1);
        }
    }

    // "A key more whose bucket has 15 keys: that SPLITS".
    static void promise3SixteenthKeySplits() {
        ExtendStore x = new ExtendStore(20, 4);
        for (int i = 0; i < 16; i++) {
            due("put " + i, x.put(keyOf(i), i), 0);
        }
        shape(x, 1, 2, 16);
        due("even ones", x.bucket(keyOf(0), 1), 8);
        due("odd ones", x.bucket(keyOf(1), 1), 8);
        for (int i = 0; i < 16; i++) {
            due("get " + i, x.get(keyOf(i)), i);
        }
    }

    // "A key more whose bucket has 15 keys": a key that is there already is none more.
    static void promise3KeyThatIsThereDoesNotSplit() {
        ExtendStore x = full(20, 4);
        due("a value more", x.put(alike(0, 0), 9), 0);
        due("the last one's too", x.put(alike(0, 14), 8), 0);
        shape(x, 0, 1, FULL);
        due("get", x.get(alike(0, 0)), 9);
        due("get of the last", x.get(alike(0, 14)), 8);
    }

    // "A key more": nor is it refused where no split would be allowed.
    static void promise3KeyThatIsThereIsNotRefused() {
        ExtendStore x = full(8, 0);
        due("a key more", x.put(keyOf(1), 1), NO_ROOM);
        due("a key that is there", x.put(alike(0, 7), 9), 0);
        due("get", x.get(alike(0, 7)), 9);
        due("size", x.size(), FULL);
    }

    // "A key more whose bucket has 15 keys": one that has 15 elsewhere does not matter.
    static void promise3AnotherBucketsFullnessDoesNotMatter() {
        ExtendStore x = parted(20, 4, 0);
        putAlike(x, 1, 1, FULL);
        due("buckets", x.buckets(), 2);
        due("both full", x.bucket(keyOf(0), 1) + x.bucket(keyOf(1), 1), 30);
        due("one removed", x.remove(alike(0, 3)), 0);
        due("one more there", x.put(keyOf(2), 2), 0);
        shape(x, 1, 2, 30);
    }

    // "if its local depth is DEPTH, the directory is doubled".
    static void promise3DoublesAtFullLocalDepth() {
        ExtendStore x = parted(20, 4, 0);
        due("depth before", x.depth(), 1);
        due("local depth before", x.bucket(keyOf(0), 0), 1);
        due("a split of entry 0", x.put(keyOf(2), 1), 0);
        shape(x, 2, 3, 17);
    }

    // "if its local depth is DEPTH": it is not doubled when the local depth is less, by one or by more.
    static void promise3DoesNotDoubleBelowFullLocalDepth() {
        ExtendStore x = parted(40, 8, 2);
        putAlike(x, 1, 0, FULL);
        due("odd ones' local depth", x.bucket(keyOf(1), 0), 1);
        due("a split of them", x.put(keyOf(3), 1), 0);
        shape(x, 3, 5, 32);
        due("a split of local depth 2", x.put(keyOf(1 | 4), 1), 0);
        shape(x, 3, 6, 33);
    }

    // "each half as it was": buckets that do not split stay as they were, in their blocks.
    static void promise3EachHalfAsItWas() {
        ExtendStore x = parted(40, 8, 0);
        x.sync();
        due("block of the odd ones", x.bucket(keyOf(1), 2), 5);
        due("the even ones split, three times doubled", x.put(keyOf(8), 1), 0);
        for (int upper = 0; upper < 16; upper += 2) {
            int key = keyOf(1 | upper);
            due("block at entry " + (1 | upper), x.bucket(key, 2), 5);
            due("local depth at entry " + (1 | upper), x.bucket(key, 0), 1);
            due("keys at entry " + (1 | upper), x.bucket(key, 1), 1);
        }
        due("the odd one", x.get(keyOf(1)), 1);
    }

    // "it becomes two of a local depth one more, its keys go by the bit of that depth".
    static void promise3KeysGoByTheBitOfThatDepth() {
        ExtendStore x = new ExtendStore(40, 8);
        for (int i = 0; i < 16; i++) {
            due("put", x.put(keyOf(i << 1), i), 0);
        }
        shape(x, 2, 3, 16);
        due("those of bits 00", x.bucket(keyOf(0), 1), 8);
        due("those of bits 10", x.bucket(keyOf(2), 1), 8);
        due("those of bit 1", x.bucket(keyOf(1), 1), 0);
        due("local depth of 00", x.bucket(keyOf(0), 0), 2);
        due("local depth of 10", x.bucket(keyOf(2), 0), 2);
        due("local depth of 1", x.bucket(keyOf(1), 0), 1);
    }

    // "again for the one of both that is the key's, until there is room": the key's own half is full again and again.
    static void promise3SplitsAgainWhileTheKeysHalfIsFull() {
        for (int bit = 0; bit < 8; bit++) {
            ExtendStore x = parted(200, 8, bit);
            shape(x, bit + 1, bit + 2, 16);
            due("the fifteen", x.bucket(keyOf(0), 1), FULL);
            due("the one", x.bucket(keyOf(1 << bit), 1), 1);
            for (int less = 0; less < bit; less++) {
                due("an empty half", x.bucket(keyOf(1 << less), 1), 0);
                due("its local depth", x.bucket(keyOf(1 << less), 0), less + 1);
            }
        }
    }

    // "for the one of both that is the key's, until there is room": the other half stays, though it is full.
    static void promise3FullOtherHalfDoesNotSplitAgain() {
        ExtendStore x = parted(200, 8, 0);
        due("the other half is full", x.bucket(keyOf(0), 1), FULL);
        due("and not split", x.bucket(keyOf(0), 0), 1);
    }

    // "until there is room": a half that has fourteen keys has room, so that no more is split.
    static void promise3OneKeyGoneElsewhereIsRoomEnough() {
        ExtendStore x = new ExtendStore(40, 8);
        putAlike(x, 0, 0, 14);
        due("one that parts in bit 1", x.put(keyOf(2), 1), 0);
        due("a sixteenth key", x.put(alike(0, 14), 1), 0);
        shape(x, 2, 3, 16);
        due("the fifteen", x.bucket(keyOf(0), 1), FULL);
    }

    // "It is refused if DEPTH would be more than MOST DEPTH": as much is no more.
    static void promise3MostDepthMayBeReached() {
        for (int mostDepth = 1; mostDepth <= 8; mostDepth++) {
            ExtendStore x = parted(200, mostDepth, mostDepth - 1);
            shape(x, mostDepth, mostDepth + 1, 16);
        }
    }

    // "It is refused if DEPTH would be more than MOST DEPTH": by one, from any depth; and changes nothing.
    static void promise3MostDepthIsNotExceeded() {
        for (int mostDepth = 0; mostDepth <= 8; mostDepth++) {
            ExtendStore x = full(200, mostDepth);
            x.sync();
            int[] keys = {alike(0, 0), alike(0, 14), keyOf(1 << mostDepth)};
            String before = seen(x, keys);
            due("depth " + (mostDepth + 1), x.put(keyOf(1 << mostDepth), 1), NO_ROOM);
            due("after the refusal", seen(x, keys), before);
        }
    }

    // The same with keys that part in higher bits alone, up to the highest four of the 32.
    static void promise3KeysThatPartInHigherBitsAloneAreRefused() {
        for (int bit = 7; bit <= 28; bit++) {
            ExtendStore x = new ExtendStore(200, 8);
            for (int i = 0; i < FULL; i++) {
                due("put", x.put(keyOf(i << bit), i), 0);
            }
            due("a key more, all part from bit " + bit + " up", x.put(keyOf(FULL << bit), 1), bit == 7 ? 0 : NO_ROOM);
            shape(x, bit == 7 ? 8 : 0, bit == 7 ? 9 : 1, bit == 7 ? 16 : FULL);
        }
    }

    // "It is refused if DEPTH would be more": a bucket of a local depth below MOST DEPTH may split at MOST DEPTH.
    static void promise3SplitsAtMostDepthWithoutDoubling() {
        ExtendStore x = parted(40, 2, 1);
        putAlike(x, 1, 0, FULL);
        due("depth", x.depth(), 2);
        due("the odd ones split", x.put(keyOf(3), 1), 0);
        shape(x, 2, 4, 32);
        due("but not deeper", x.put(keyOf(1 | 4), 1), NO_ROOM);
        shape(x, 2, 4, 32);
    }

    // "or the buckets with the directory's blocks more than the blocks but the two masters": as many are no more.
    static void promise3RoomMayBeUsedUp() {
        int[][] bitAndBlocks = {{3, 8}, {4, 9}, {5, 11}, {6, 14}, {7, 19}};
        for (int[] row : bitAndBlocks) {
            shape(parted(row[1], 8, row[0]), row[0] + 1, row[0] + 2, 16);
        }
    }

    // The same: one block too few, and the refusal changes nothing.
    static void promise3RoomIsNotExceeded() {
        int[][] bitAndBlocks = {{4, 8}, {5, 10}, {6, 13}, {7, 18}};
        for (int[] row : bitAndBlocks) {
            ExtendStore x = full(row[1], 8);
            x.sync();
            int[] keys = {alike(0, 0), alike(0, 14), keyOf(1 << row[0])};
            String before = seen(x, keys);
            due("a split in bit " + row[0] + " with " + row[1] + " blocks", x.put(keyOf(1 << row[0]), 1), NO_ROOM);
            due("after the refusal", seen(x, keys), before);
        }
    }

    // The same, for a split that does not double: a bucket more is one too many all the same.
    static void promise3RoomIsNotExceededWithoutDoubling() {
        for (int blocks = 8; blocks <= 9; blocks++) {
            ExtendStore x = parted(blocks, 8, 3);
            putAlike(x, 1, 0, FULL);
            int[] keys = {alike(0, 0), alike(1, 0), keyOf(3)};
            String before = seen(x, keys);
            due("the odd ones split with " + blocks + " blocks", x.put(keyOf(3), 1), blocks == 8 ? NO_ROOM : 0);
            due("buckets", x.buckets(), blocks == 8 ? 5 : 6);
            if (blocks == 8) {
                due("after the refusal", seen(x, keys), before);
            }
        }
    }

    // "the buckets with the directory's blocks": those of now, not those of the last sync.
    static void promise3RoomIsForTheBucketsOfNow() {
        ExtendStore x = parted(10, 8, 3);
        due("sync of five buckets", x.sync(), 0);
        due("one", x.remove(keyOf(8)), 0);
        removeAlike(x, 0, 0, FULL);
        shape(x, 0, 1, 0);
        putAlike(x, 0, 0, FULL);
        due("seven buckets would be one too many", x.put(keyOf(32), 1), NO_ROOM);
        due("six are not", x.put(keyOf(16), 1), 0);
        shape(x, 5, 6, 16);
    }

    // "It is refused": behind splits that were allowed each for itself, and none of those stays.
    static void promise3RefusalOfALaterSplitTakesBackTheEarlierOnes() {
        ExtendStore byDepth = parted(200, 3, 0);
        byDepth.sync();
        int[] keys = {alike(0, 0), alike(0, 14), keyOf(1)};
        String before = seen(byDepth, keys);
        due("depths 2 and 3 would be allowed, 4 is not", byDepth.put(keyOf(8), 1), NO_ROOM);
        due("after the refusal", seen(byDepth, keys), before);

        ExtendStore byRoom = parted(8, 8, 0);
        byRoom.sync();
        before = seen(byRoom, keys);
        due("three buckets more would be allowed, four are not", byRoom.put(keyOf(16), 1), NO_ROOM);
        due("after the refusal", seen(byRoom, keys), before);
    }

    // "the directory takes a block for each 32 entries or part of them": 32 take one, 64 two.
    static void promise3DirectoryBlocks() {
        int[][] bitAndDirectory = {{0, 1}, {3, 1}, {4, 1}, {5, 2}, {6, 4}, {7, 8}};
        for (int[] row : bitAndDirectory) {
            ExtendStore x = parted(200, 8, row[0]);
            due("sync", x.sync(), 0);
            due("free with " + (1 << row[0] + 1) + " entries", x.free(), 198 - (row[0] + 2) - row[1]);
        }
        ExtendStore part = new ExtendStore(200, 8);
        due("free with one entry, a part of a block", part.free(), 198 - 1 - 1);
    }

    // "What is refused changes nothing": there is nothing to sync behind it.
    static void promise3RefusedPutIsNotWritten() {
        ExtendStore x = full(20, 0);
        x.sync();
        int writes = x.writes();
        due("refused", x.put(keyOf(1), 1), NO_ROOM);
        due("has", x.has(keyOf(1)), false);
        due("block", x.bucket(0, 2), 4);
        due("sync", x.sync(), 0);
        due("writes", x.writes(), writes);
    }

    // "A key more whose bucket has 15 keys": behind a refusal a removal makes the room.
    static void promise3RefusedKeyFitsAfterARemoval() {
        ExtendStore x = full(20, 0);
        due("refused", x.put(keyOf(1), 1), NO_ROOM);
        due("one away", x.remove(alike(0, 5)), 0);
        due("now it fits", x.put(keyOf(1), 1), 0);
        shape(x, 0, 1, FULL);
        due("and the next does not", x.put(keyOf(2), 1), NO_ROOM);
    }

    // "int put(int k, int v)": the least and the largest ints are keys and values like others.
    static void promise3ExtremeKeysAndValues() {
        ExtendStore x = new ExtendStore(20, 4);
        int[] extreme = {0, -1, 1, Integer.MIN_VALUE, Integer.MAX_VALUE, NO_ROOM, NO_KEY, DOWN};
        for (int i = 0; i < extreme.length; i++) {
            due("put", x.put(extreme[i], extreme[extreme.length - 1 - i]), 0);
        }
        for (int i = 0; i < extreme.length; i++) {
            due("get of " + extreme[i], x.get(extreme[i]), extreme[extreme.length - 1 - i]);
        }
        due("size", x.size(), extreme.length);
    }

    // "DOWN (before all else)": also where the put would be refused; and it changes nothing.
    static void promise3PutWhenDown() {
        ExtendStore x = full(8, 0);
        x.sync();
        int[] keys = {alike(0, 0), alike(0, 14), keyOf(1)};
        String before = seen(x, keys);
        x.put(alike(0, 0), 1);
        x.crashAfter(1);
        due("sync", x.sync(), DOWN);
        due("a put that would be refused", x.put(keyOf(1), 1), DOWN);
        due("a put of a key that is there", x.put(alike(0, 0), 2), DOWN);
        x.recover();
        due("after the recovery", seen(x, keys), before);
    }

    // ---- Promise 4: get

    // "0 when it has none": in an empty bucket, in one with other keys, in a full one, and when it was removed.
    static void promise4GetWithoutValue() {
        ExtendStore x = new ExtendStore(20, 4);
        due("empty", x.get(5), 0);
        x.put(6, 7);
        due("another key", x.get(5), 0);
        x.remove(6);
        due("removed", x.get(6), 0);
        due("full", full(20, 4).get(keyOf(1)), 0);
    }

    // "A key's value": also one that looks like an answer below 0, or like none.
    static void promise4ValuesLikeAnswers() {
        ExtendStore x = new ExtendStore(20, 4);
        for (int value : new int[] {NO_ROOM, NO_KEY, DOWN, 0, -1}) {
            due("put", x.put(5, value), 0);
            due("get", x.get(5), value);
            due("has", x.has(5), true);
        }
    }

    // "A key's value": a refused put leaves it.
    static void promise4GetAfterRefusal() {
        ExtendStore x = full(20, 0);
        x.put(keyOf(1), 1);
        for (int i = 0; i < FULL; i++) {
            due("get", x.get(alike(0, i)), 100 + i);
        }
        due("get of the refused", x.get(keyOf(1)), 0);
    }

    // "DOWN": for a key with a value and for one without.
    static void promise4GetWhenDown() {
        ExtendStore x = downStore();
        due("with a value", x.get(1), DOWN);
        due("without", x.get(2), DOWN);
    }

    // ---- Promise 5: has

    // "Whether a key has a value": 0 is one.
    static void promise5HasWithValue0() {
        ExtendStore x = new ExtendStore(20, 4);
        due("before", x.has(0), false);
        x.put(0, 0);
        due("key 0 with value 0", x.has(0), true);
        x.remove(0);
        due("removed", x.has(0), false);
    }

    // "Whether a key has a value": one that was refused has none.
    static void promise5HasAfterRefusal() {
        ExtendStore x = full(20, 0);
        x.put(keyOf(1), 1);
        due("refused", x.has(keyOf(1)), false);
        due("another one", x.has(alike(0, 14)), true);
    }

    // "false when it is down".
    static void promise5HasWhenDown() {
        ExtendStore x = downStore();
        due("a key that had a value", x.has(1), false);
        x.recover();
        due("and has it again", x.has(1), true);
    }

    // ---- Promise 6: remove, and how buckets merge

    // "NO_KEY": of an empty store, of a key removed before, of a full bucket.
    static void promise6NoKey() {
        ExtendStore x = new ExtendStore(20, 4);
        due("empty store", x.remove(0), NO_KEY);
        x.put(0, 1);
        due("another key", x.remove(1), NO_KEY);
        due("removed", x.remove(0), 0);
        due("removed twice", x.remove(0), NO_KEY);
        due("full bucket", full(20, 4).remove(keyOf(1)), NO_KEY);
    }

    // "What is refused changes nothing": NO_KEY leaves all, and nothing to sync.
    static void promise6NoKeyChangesNothing() {
        ExtendStore x = parted(40, 8, 2);
        x.sync();
        int[] keys = {alike(0, 0), alike(0, 14), keyOf(4), keyOf(1), keyOf(2)};
        String before = seen(x, keys);
        due("in a full bucket", x.remove(keyOf(8)), NO_KEY);
        due("in one with a key", x.remove(keyOf(4 | 8)), NO_KEY);
        due("in an empty one", x.remove(keyOf(1)), NO_KEY);
        due("after it", seen(x, keys), before);
        due("sync", x.sync(), 0);
        due("after the sync", seen(x, keys), before);
    }

    // "A bucket that has lost its last key": one that is empty from a split has lost none, whatever its buddy loses.
    static void promise6EmptyHalvesOfASplitStay() {
        ExtendStore x = parted(40, 8, 3);
        due("a key of entry 0", x.remove(alike(0, 0)), 0);
        shape(x, 4, 5, 15);
        due("the one of entry 8", x.remove(keyOf(8)), 0);
        due("entry 0 is as deep now", x.bucket(keyOf(0), 0), 3);
        due("as entry 4", x.bucket(keyOf(4), 0), 3);
        due("its buddy loses a key", x.remove(alike(0, 1)), 0);
        shape(x, 3, 4, 13);
    }

    // The same: NO_KEY is no loss, so that an empty bucket with a buddy as deep stays.
    static void promise6NoKeyDoesNotMerge() {
        ExtendStore x = parted(40, 8, 3);
        due("the one of entry 8", x.remove(keyOf(8)), 0);
        shape(x, 3, 4, FULL);
        due("none of entry 4", x.remove(keyOf(4)), NO_KEY);
        shape(x, 3, 4, FULL);
    }

    // The same: one that was emptied beside a deeper buddy stays when that buddy has come to its local depth by merging
    // and has keys; it has lost nothing then.
    static void promise6EmptyBucketStaysWhenItsBuddyComesToItsDepth() {
        ExtendStore x = parted(40, 8, 2);
        due("a key to the odd ones", x.put(keyOf(1), 1), 0);
        due("and away", x.remove(keyOf(1)), 0);
        due("a key to entry 2", x.put(keyOf(2), 2), 0);
        due("entry 4 merges with 0", x.remove(keyOf(4)), 0);
        due("entry 2 merges with 0", x.remove(keyOf(2)), 0);
        due("as deep as the odd ones", x.bucket(keyOf(0), 0), 1);
        due("which are empty", x.bucket(keyOf(1), 1), 0);
        shape(x, 1, 2, FULL);
    }

    // "A bucket that has lost its last key": the last but one is not yet it.
    static void promise6LastButOneDoesNotMerge() {
        ExtendStore x = parted(20, 4, 0);
        x.put(keyOf(3), 3);
        due("one of two", x.remove(keyOf(1)), 0);
        shape(x, 1, 2, 16);
        due("the last", x.remove(keyOf(3)), 0);
        shape(x, 0, 1, 15);
    }

    // "of a local depth above 0": the only bucket of depth 0 stays.
    static void promise6LastKeyAtLocalDepth0() {
        ExtendStore x = new ExtendStore(20, 4);
        x.put(7, 1);
        due("the last key", x.remove(7), 0);
        shape(x, 0, 1, 0);
        due("local depth", x.bucket(7, 0), 0);
        due("put again", x.put(7, 2), 0);
        due("get", x.get(7), 2);
    }

    // "whose BUDDY (the one that differs in the highest of its local bits)": not the one that differs in the lowest.
    static void promise6BuddyDiffersInTheHighestLocalBit() {
        ExtendStore x = parted(40, 8, 1);
        putAlike(x, 1, 0, FULL);
        due("the odd ones part in bit 1", x.put(keyOf(3), 33), 0);
        shape(x, 2, 4, 32);
        due("the last key of entry 2", x.remove(keyOf(2)), 0);
        due("entry 0 and 2 are one", x.bucket(keyOf(2), 1), FULL);
        due("of local depth 1", x.bucket(keyOf(2), 0), 1);
        due("entry 3 is by itself", x.bucket(keyOf(3), 1), 1);
        due("of local depth 2", x.bucket(keyOf(3), 0), 2);
        shape(x, 2, 3, 31);
    }

    // "has the same local depth": a deeper buddy does not merge, by one level or by more.
    static void promise6DeeperBuddyDoesNotMerge() {
        for (int bit = 1; bit < 4; bit++) {
            ExtendStore x = parted(40, 8, bit);
            due("a key to the odd ones", x.put(keyOf(1), 1), 0);
            due("and away", x.remove(keyOf(1)), 0);
            shape(x, bit + 1, bit + 2, 16);
            due("empty", x.bucket(keyOf(1), 1), 0);
            due("local depth", x.bucket(keyOf(1), 0), 1);
        }
    }

    // "both become one, of a local depth one less, with the buddy's keys": on either side, and with a full buddy.
    static void promise6MergedBucketHasTheBuddysKeys() {
        ExtendStore upper = parted(20, 4, 0);
        due("the upper one's last key", upper.remove(keyOf(1)), 0);
        due("keys of a full buddy", upper.bucket(keyOf(1), 1), FULL);
        due("local depth", upper.bucket(keyOf(1), 0), 0);
        for (int i = 0; i < FULL; i++) {
            due("get", upper.get(alike(0, i)), 100 + i);
        }
        due("a key more splits again", upper.put(keyOf(1), 5), 0);
        shape(upper, 1, 2, 16);

        ExtendStore lower = parted(20, 4, 0);
        removeAlike(lower, 0, 0, FULL);
        shape(lower, 0, 1, 1);
        due("the buddy's key", lower.get(keyOf(1)), 1);
        due("keys", lower.bucket(keyOf(0), 1), 1);
    }

    // "both become one": another one than what was synced, also for keys of the buddy, which lost nothing.
    static void promise6MergedBucketIsChanged() {
        ExtendStore x = parted(20, 4, 0);
        x.sync();
        due("the buddy's block", x.bucket(keyOf(0), 2), 4);
        x.remove(keyOf(1));
        due("the merged one's", x.bucket(keyOf(0), 2), 0);
        int writes = x.writes();
        due("sync", x.sync(), 0);
        due("bucket, directory, master", x.writes(), writes + 3);
        due("least free", x.bucket(keyOf(0), 2), 2);
    }

    // "again, if that has none": level by level down to local depth 0.
    static void promise6MergesAgainWhileEmpty() {
        for (int bit = 1; bit < 8; bit++) {
            ExtendStore x = parted(200, 8, bit);
            due("the one", x.remove(keyOf(1 << bit)), 0);
            shape(x, bit, bit + 1, FULL);
            removeAlike(x, 0, 0, 14);
            shape(x, bit, bit + 1, 1);
            due("the last of all", x.remove(alike(0, 14)), 0);
            shape(x, 0, 1, 0);
        }
    }

    // "again, if that has none": not when the buddy had keys, though the next buddy is empty and as deep.
    static void promise6DoesNotMergeAgainWithKeys() {
        ExtendStore x = parted(40, 8, 3);
        due("the one of entry 8", x.remove(keyOf(8)), 0);
        due("merged with the fifteen", x.bucket(keyOf(8), 1), FULL);
        due("of local depth 3", x.bucket(keyOf(8), 0), 3);
        due("entry 4, as deep and empty, is by itself", x.bucket(keyOf(4), 1), 0);
        shape(x, 3, 4, FULL);
    }

    // "again, if that has none": the second buddy has keys, and there it ends.
    static void promise6MergesAgainUntilABuddyHasKeys() {
        ExtendStore x = parted(40, 8, 2);
        due("a key at entry 2", x.put(keyOf(2), 22), 0);
        due("the one of entry 4", x.remove(keyOf(4)), 0);
        shape(x, 2, 3, 16);
        removeAlike(x, 0, 0, FULL);
        due("entries 0 and 2 are one", x.bucket(keyOf(0), 1), 1);
        due("of local depth 1", x.bucket(keyOf(0), 0), 1);
        due("its key", x.get(keyOf(2)), 22);
        shape(x, 1, 2, 1);
    }

    // "again": the second buddy is deeper, and there it ends, with an empty bucket.
    static void promise6MergesAgainUntilABuddyIsDeeper() {
        ExtendStore x = parted(40, 8, 3);
        due("the one of entry 8", x.remove(keyOf(8)), 0);
        putAlike(x, 2, 0, FULL);
        due("entry 2 parts from 6", x.put(keyOf(6), 6), 0);
        shape(x, 3, 5, 31);
        removeAlike(x, 0, 0, FULL);
        due("entries 0 and 4 are one, and empty", x.bucket(keyOf(4), 1), 0);
        due("of local depth 2", x.bucket(keyOf(4), 0), 2);
        due("its buddy's local depth", x.bucket(keyOf(2), 0), 3);
        shape(x, 3, 4, 16);
    }

    // "while ... no bucket's local depth is DEPTH, the directory is halved": not while there is one, however far off.
    static void promise6NotHalvedWhileABucketIsAsDeep() {
        ExtendStore x = parted(40, 8, 2);
        putAlike(x, 3, 0, FULL);
        due("the odd ones, to depth 3", x.put(keyOf(7), 7), 0);
        due("entries 3 and 7 of local depth 3", x.bucket(keyOf(3), 0), 3);
        due("entry 4's last", x.remove(keyOf(4)), 0);
        due("depth stays", x.depth(), 3);
        due("entry 7's last", x.remove(keyOf(7)), 0);
        due("depth is one less", x.depth(), 2);
    }

    // "while ... the directory is halved": several times for one removal, but no more than it may.
    static void promise6HalvedSeveralTimes() {
        ExtendStore x = parted(200, 8, 7);
        due("a key at entry 2", x.put(keyOf(2), 2), 0);
        due("the one", x.remove(keyOf(1 << 7)), 0);
        removeAlike(x, 0, 0, 14);
        due("depth before", x.depth(), 7);
        due("the last of entry 0", x.remove(alike(0, 14)), 0);
        shape(x, 1, 2, 1);
        due("the key that is left", x.get(keyOf(2)), 2);
    }

    // "while DEPTH is above 0": at depth 0 it is not halved, and doubles to 1 from there.
    static void promise6NotHalvedBelow0() {
        ExtendStore x = parted(20, 4, 0);
        due("down to depth 0", x.remove(keyOf(1)), 0);
        shape(x, 0, 1, FULL);
        removeAlike(x, 0, 0, FULL);
        shape(x, 0, 1, 0);
        putAlike(x, 0, 0, FULL);
        due("split", x.put(keyOf(1), 1), 0);
        shape(x, 1, 2, 16);
    }

    // "the directory is halved": each key is found in what is left.
    static void promise6KeysAreFoundAfterHalving() {
        ExtendStore x = parted(40, 8, 2);
        putAlike(x, 1, 0, 3);
        putAlike(x, 2, 0, 3);
        due("the one", x.remove(keyOf(4)), 0);
        shape(x, 2, 3, 21);
        for (int i = 0; i < FULL; i++) {
            due("entry 0", x.get(alike(0, i)), 100 + i);
        }
        for (int i = 0; i < 3; i++) {
            due("entry 1", x.get(alike(1, i)), 100 + i);
            due("entry 2", x.get(alike(2, i)), 100 + i);
        }
    }

    // "more than the blocks but the two masters": merging gives the room back that a refused split lacked.
    static void promise6MergingGivesRoomForARefusedSplit() {
        ExtendStore x = parted(8, 8, 3);
        putAlike(x, 1, 0, FULL);
        due("refused with five buckets", x.put(keyOf(3), 3), NO_ROOM);
        due("one less", x.remove(keyOf(8)), 0);
        due("now it splits", x.put(keyOf(3), 3), 0);
        due("buckets", x.buckets(), 5);
    }

    // "DOWN (before all else)": also where the answer would be NO_KEY; and it changes nothing.
    static void promise6RemoveWhenDown() {
        ExtendStore x = downStore();
        due("of a key", x.remove(1), DOWN);
        due("of none", x.remove(2), DOWN);
        x.recover();
        due("the key is there", x.get(1), 10);
        due("size", x.size(), 1);
    }

    // ---- Promises 7 to 9: size, depth and buckets

    // "How many keys": none, a bucket's fill and one more; refusals and new values do not count.
    static void promise7Size() {
        ExtendStore x = new ExtendStore(20, 1);
        due("none", x.size(), 0);
        due("NO_KEY", x.remove(1), NO_KEY);
        due("none still", x.size(), 0);
        putAlike(x, 0, 0, FULL);
        due("fifteen", x.size(), FULL);
        x.put(alike(0, 0), 5);
        due("a value more", x.size(), FULL);
        due("refused", x.put(keyOf(2), 2), NO_ROOM);
        due("a refused one", x.size(), FULL);
        x.put(keyOf(1), 1);
        due("sixteen", x.size(), 16);
        x.remove(keyOf(1));
        due("fifteen again", x.size(), FULL);
    }

    // "DOWN".
    static void promise7SizeWhenDown() {
        due("size", downStore().size(), DOWN);
    }

    // "DEPTH": 0 and 8 are its ends.
    static void promise8Depth() {
        due("at first", new ExtendStore(200, 8).depth(), 0);
        due("at most", parted(200, 8, 7).depth(), 8);
    }

    // "DOWN": also when depth is 0.
    static void promise8DepthWhenDown() {
        due("depth", downStore().depth(), DOWN);
    }

    // "How many buckets": one at the least, each counted once, however many entries it has.
    static void promise9Buckets() {
        due("at first", new ExtendStore(8, 0).buckets(), 1);
        due("nine in 256 entries", parted(200, 8, 7).buckets(), 9);
    }

    // "DOWN".
    static void promise9BucketsWhenDown() {
        due("buckets", downStore().buckets(), DOWN);
    }

    // ---- Promise 15: bucket

    // "The local depth of a key's bucket (what = 0)": 0 and 8 are its ends.
    static void promise15LocalDepth() {
        due("at first", new ExtendStore(200, 8).bucket(5, 0), 0);
        due("at most", parted(200, 8, 7).bucket(keyOf(0), 0), 8);
    }

    // "how many keys it has (1)": none, fifteen, and also asked with a key that has no value.
    static void promise15Keys() {
        due("none", new ExtendStore(20, 4).bucket(5, 1), 0);
        due("fifteen", full(20, 4).bucket(keyOf(0), 1), FULL);
        due("asked with a key without a value", full(20, 4).bucket(keyOf(1), 1), FULL);
        due("an empty half", parted(20, 4, 1).bucket(keyOf(1), 1), 0);
    }

    // "its block, or 0 if it changed since the last sync (2)": its own change alone, not a neighbour's.
    static void promise15BlockOfAChangedBucket() {
        ExtendStore x = parted(20, 4, 0);
        due("new by a split: entry 0", x.bucket(keyOf(0), 2), 0);
        due("new by a split: entry 1", x.bucket(keyOf(1), 2), 0);
        x.sync();
        due("entry 0", x.bucket(keyOf(0), 2), 4);
        due("entry 1", x.bucket(keyOf(1), 2), 5);
        x.put(keyOf(1), 1);
        due("changed by the value that it had", x.bucket(keyOf(1), 2), 0);
        due("unchanged", x.bucket(keyOf(0), 2), 4);
        x.remove(alike(0, 3));
        due("changed by a removal", x.bucket(keyOf(0), 2), 0);
    }

    // "0 if it changed since the last sync": a refused sync is none, and a recovery gives the block back.
    static void promise15BlockAfterRefusedSyncAndRecovery() {
        ExtendStore x = parted(8, 8, 1);
        due("just enough", x.sync(), 0);
        int block = x.bucket(keyOf(0), 2);
        x.put(keyOf(0), 1);
        x.put(keyOf(1), 1);
        due("refused", x.sync(), NO_ROOM);
        due("changed still", x.bucket(keyOf(0), 2), 0);
        x.recover();
        due("as synced", x.bucket(keyOf(0), 2), block);
    }

    // "0 for other whats".
    static void promise15OtherWhats() {
        ExtendStore x = parted(20, 4, 0);
        x.sync();
        for (int what : new int[] {3, 4, -1, 256, 1 << 16, Integer.MAX_VALUE, Integer.MIN_VALUE}) {
            due("what " + what, x.bucket(keyOf(0), what), 0);
        }
    }

    // "DOWN (before all else)": for other whats too.
    static void promise15BucketWhenDown() {
        ExtendStore x = downStore();
        for (int what : new int[] {0, 1, 2, 3, -1, Integer.MAX_VALUE, Integer.MIN_VALUE}) {
            due("what " + what, x.bucket(1, what), DOWN);
        }
    }
}
