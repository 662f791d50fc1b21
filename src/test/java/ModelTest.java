import java.util.ArrayList;
import java.util.HashMap;
import java.util.List;
import java.util.Map;
import java.util.TreeMap;

// Long runs of calls, answer by answer, against a slow model that follows the document's words on a disk of records.
public final class ModelTest {
    private static final int NO_ROOM = -2000000001;
    private static final int NO_KEY = -2000000002;
    private static final int DOWN = -2000000003;
    private static final int CALLS = 512;
    private static final int RUNS = 6000;

    // A bucket is known by its local depth and the bits in which its entries agree.
    record Name(int local, int bits) {
    }

    record StoredBucket(Name name, Map<Integer, Integer> keys) {
    }

    record StoredDirectory(List<Integer> blocks) {
    }

    record StoredMaster(int number, int depth, List<Integer> directory) {
    }

    static final class Refused extends Exception {
        private static final long serialVersionUID = 1;
    }

    static final class Model {
        final int blocks;
        final int mostDepth;
        final Object[] disk;
        Map<Name, Map<Integer, Integer>> contents = new HashMap<>();
        Map<Name, Integer> unchanged = new HashMap<>();
        int depth;
        int writes;
        int crash;
        boolean down;

        Model(int blocks, int mostDepth) {
            this.blocks = blocks < 8 ? 8 : blocks > 200 ? 200 : blocks;
            this.mostDepth = mostDepth < 0 ? 0 : mostDepth > 8 ? 8 : mostDepth;
            disk = new Object[this.blocks];
            disk[0] = new StoredMaster(0, 0, List.of(3));
            disk[2] = new StoredBucket(new Name(0, 0), new TreeMap<>());
            disk[3] = new StoredDirectory(List.of(2));
            load();
        }

        static int mix(int k) {
            long product = (k * 0x9E3779B1L) & 0xFFFFFFFFL;
            return (int) (product ^ (product / 32768));
        }

        StoredMaster master() {
            StoredMaster zero = (StoredMaster) disk[0];
            StoredMaster one = (StoredMaster) disk[1];
            return one == null || zero.number > one.number ? zero : one;
        }

        List<Integer> syncedEntries() {
            List<Integer> entries = new ArrayList<>();
            for (int block : master().directory()) {
                entries.addAll(((StoredDirectory) disk[block]).blocks());
            }
            return entries;
        }

        void load() {
            contents = new HashMap<>();
            unchanged = new HashMap<>();
            depth = master().depth();
            List<Integer> entries = syncedEntries();
            if (entries.size() != 1 << depth) {
                throw new IllegalStateException("the model's directory is torn");
            }
            for (int block : entries) {
                StoredBucket stored = (StoredBucket) disk[block];
                contents.put(stored.name(), new TreeMap<>(stored.keys()));
                unchanged.put(stored.name(), block);
            }
        }

        Name nameOf(int mixed) {
            for (Name name : contents.keySet()) {
                if (Math.floorMod(mixed, 1 << name.local()) == name.bits()) {
                    return name;
                }
            }
            throw new IllegalStateException("the model has no bucket for " + mixed);
        }

        static int directoryBlocks(int depth) {
            return depth <= 5 ? 1 : 1 << (depth - 5);
        }

        int put(int k, int v) {
            Map<Name, Map<Integer, Integer>> keptContents = copyOf(contents);
            Map<Name, Integer> keptUnchanged = new HashMap<>(unchanged);
            int keptDepth = depth;
            try {
                insert(k, v);
                return 0;
            } catch (Refused refused) {
                contents = keptContents;
                unchanged = keptUnchanged;
                depth = keptDepth;
                return NO_ROOM;
            }
        }

        static Map<Name, Map<Integer, Integer>> copyOf(Map<Name, Map<Integer, Integer>> from) {
            Map<Name, Map<Integer, Integer>> copy = new HashMap<>();
            for (Map.Entry<Name, Map<Integer, Integer>> entry : from.entrySet()) {
                copy.put(entry.getKey(), new TreeMap<>(entry.getValue()));
            }
            return copy;
        }

        void insert(int k, int v) throws Refused {
            Name name = nameOf(mix(k));
            Map<Integer, Integer> keys = contents.get(name);
            if (keys.containsKey(k) || keys.size() < 15) {
                keys.put(k, v);
                unchanged.remove(name);
                return;
            }
            split(name);
            insert(k, v);
        }

        void split(Name name) throws Refused {
            if (name.local() == depth) {
                depth++;
            }
            Name low = new Name(name.local() + 1, name.bits());
            Name high = new Name(name.local() + 1, name.bits() + (1 << name.local()));
            Map<Integer, Integer> keys = contents.remove(name);
            unchanged.remove(name);
            contents.put(low, new TreeMap<>());
            contents.put(high, new TreeMap<>());
            for (Map.Entry<Integer, Integer> key : keys.entrySet()) {
                boolean isHigh = Math.floorMod(mix(key.getKey()), 1 << high.local()) == high.bits();
                contents.get(isHigh ? high : low).put(key.getKey(), key.getValue());
            }
            if (depth > mostDepth || contents.size() + directoryBlocks(depth) > blocks - 2) {
                throw new Refused();
            }
        }

        int remove(int k) {
            Name name = nameOf(mix(k));
            Map<Integer, Integer> keys = contents.get(name);
            if (!keys.containsKey(k)) {
                return NO_KEY;
            }
            keys.remove(k);
            unchanged.remove(name);
            merge(name);
            while (depth > 0 && contents.keySet().stream().noneMatch(n -> n.local() == depth)) {
                depth--;
            }
            return 0;
        }

        void merge(Name name) {
            if (name.local() == 0 || !contents.get(name).isEmpty()) {
                return;
            }
            Name buddy = new Name(name.local(), name.bits() ^ 1 << (name.local() - 1));
            if (!contents.containsKey(buddy)) {
                return;
            }
            contents.remove(name);
            unchanged.remove(name);
            unchanged.remove(buddy);
            Name merged = new Name(name.local() - 1, Math.min(name.bits(), buddy.bits()));
            contents.put(merged, contents.remove(buddy));
            merge(merged);
        }

        int format() {
            contents = new HashMap<>();
            contents.put(new Name(0, 0), new TreeMap<>());
            unchanged = new HashMap<>();
            depth = 0;
            return sync();
        }

        List<Integer> freeBlocks() {
            List<Integer> free = new ArrayList<>();
            for (int block = 2; block < blocks; block++) {
                if (!master().directory().contains(block) && !syncedEntries().contains(block)) {
                    free.add(block);
                }
            }
            return free;
        }

        int sync() {
            int changed = contents.size() - unchanged.size();
            if (changed == 0) {
                return 0;
            }
            List<Integer> free = freeBlocks();
            if (changed + directoryBlocks(depth) > free.size()) {
                return NO_ROOM;
            }
            Map<Name, Integer> places = new HashMap<>(unchanged);
            List<Integer> entries = new ArrayList<>();
            for (int entry = 0; entry < 1 << depth; entry++) {
                Name name = nameOf(entry);
                if (!places.containsKey(name)) {
                    places.put(name, free.get(0));
                    write(free.remove(0), new StoredBucket(name, new TreeMap<>(contents.get(name))));
                }
                entries.add(places.get(name));
            }
            List<Integer> directory = new ArrayList<>();
            for (int from = 0; from < entries.size(); from += 32) {
                List<Integer> part = entries.subList(from, Math.min(from + 32, entries.size()));
                directory.add(free.get(0));
                write(free.remove(0), new StoredDirectory(new ArrayList<>(part)));
            }
            int number = master().number() + 1;
            write(number % 2, new StoredMaster(number, depth, directory));
            if (down) {
                return DOWN;
            }
            unchanged = places;
            return 0;
        }

        void write(int block, Object stored) {
            if (!down && crash > 0) {
                crash--;
                down = crash == 0;
            }
            if (!down) {
                disk[block] = stored;
                writes++;
            }
        }

        int size() {
            int size = 0;
            for (Map<Integer, Integer> keys : contents.values()) {
                size += keys.size();
            }
            return size;
        }

        int bucket(int k, int what) {
            Name name = nameOf(mix(k));
            if (what == 0) {
                return name.local();
            }
            if (what == 1) {
                return contents.get(name).size();
            }
            return what == 2 && unchanged.containsKey(name) ? unchanged.get(name) : 0;
        }

        long answer(Call call) {
            int k = call.k();
            switch (call.name()) {
                case "crashAfter":
                    crash = down ? crash : Math.max(0, k);
                    return 0;
                case "recover":
                    down = false;
                    crash = 0;
                    load();
                    return 0;
                case "writes":
                    return writes;
                case "has":
                    return !down && contents.get(nameOf(mix(k))).containsKey(k) ? 1 : 0;
                default:
                    return down ? DOWN : answerWhenUp(call);
            }
        }

        long answerWhenUp(Call call) {
            int k = call.k();
            switch (call.name()) {
                case "format": return format();
                case "put": return put(k, call.other());
                case "get": return contents.get(nameOf(mix(k))).getOrDefault(k, 0);
                case "remove": return remove(k);
                case "size": return size();
                case "depth": return depth;
                case "buckets": return contents.size();
                case "sync": return sync();
                case "free": return freeBlocks().size();
                case "bucket": return bucket(k, call.other());
                default: throw new IllegalStateException("no such call: " + call);
            }
        }
    }

    record Call(String name, int k, int other) {
    }

    static long answer(ExtendStore x, Call call) {
        int k = call.k();
        switch (call.name()) {
            case "format": return x.format();
            case "put": return x.put(k, call.other());
            case "get": return x.get(k);
            case "has": return x.has(k) ? 1 : 0;
            case "remove": return x.remove(k);
            case "size": return x.size();
            case "depth": return x.depth();
            case "buckets": return x.buckets();
            case "sync": return x.sync();
            case "crashAfter": x.crashAfter(k); return 0;
            case "recover": return x.recover();
            case "writes": return x.writes();
            case "free": return x.free();
            case "bucket": return x.bucket(k, call.other());
            default: throw new IllegalStateException("no such call: " + call);
        }
    }

    // Numbers that are the same in every run of the test.
    static final class Numbers {
        long state;

        Numbers(long seed) {
            state = seed * 0x9E3779B97F4A7C15L + 1;
        }

        int below(int bound) {
            state = state * 6364136223846793005L + 1442695040888963407L;
            return (int) ((state >>> 33) % bound);
        }
    }

    // The key of a mixing, so that keys can be heaped on few buckets.
    static int keyOf(int mixing) {
        int inverse = 1;
        for (int i = 0; i < 5; i++) {
            inverse *= 2 - 0x9E3779B1 * inverse;
        }
        return (mixing ^ (mixing >>> 15) ^ (mixing >>> 30)) * inverse;
    }

    static int someKey(Numbers numbers, int kind) {
        switch (kind) {
            case 0: return numbers.below(40);
            case 1: return numbers.below(400);
            case 2: return keyOf(numbers.below(24) << 8 | 1 << numbers.below(9));
            case 3: return keyOf(numbers.below(40) << numbers.below(8));
            case 4: return keyOf(numbers.below(3) << 12 | numbers.below(256));
            case 5: return numbers.below(100) - 50;
            default: return numbers.below(300) * 0x5BD1E995;
        }
    }

    // How likely a removal is changes slowly, so that a run fills and empties its buckets.
    static Call someCall(Numbers numbers, int kind, int done) {
        int k = someKey(numbers, kind);
        boolean filling = done % 200 < 120;
        int dice = numbers.below(100);
        if (dice < 60) {
            boolean put = numbers.below(10) < (filling ? 9 : 1);
            return put ? new Call("put", k, numbers.below(5)) : new Call("remove", k, 0);
        }
        if (dice < 70) {
            return new Call("sync", 0, 0);
        }
        if (dice < 73) {
            return new Call("crashAfter", numbers.below(30) - 2, 0);
        }
        if (dice < 76) {
            return new Call("recover", 0, 0);
        }
        if (dice < 77 && numbers.below(4) == 0) {
            return new Call("format", 0, 0);
        }
        return someQuestion(numbers, k);
    }

    static Call someQuestion(Numbers numbers, int k) {
        String[] questions = {"get", "has", "size", "depth", "buckets", "writes", "free", "bucket", "bucket", "bucket"};
        return new Call(questions[numbers.below(questions.length)], k, numbers.below(5) - 1);
    }

    // Removes every key it may have put, one by one: this is what merges and halves.
    static Call sweep(int kind, int done) {
        if (kind == 0) {
            return new Call("remove", done % 40, 0);
        }
        return kind == 1 ? new Call("remove", done % 400, 0)
            : new Call("remove", keyOf((done % 24) << 8 | 1 << (done / 24 % 9)), 0);
    }

    static boolean runIsRight(int run) {
        Numbers numbers = new Numbers(run);
        int blocks = numbers.below(3) == 0 ? numbers.below(14) + 7 : numbers.below(200) + 1;
        int mostDepth = numbers.below(11) - 1;
        int kind = numbers.below(7);
        boolean sweeps = kind < 3 && numbers.below(2) == 0;
        ExtendStore store = new ExtendStore(blocks, mostDepth);
        Model model = new Model(blocks, mostDepth);
        List<Call> calls = new ArrayList<>();
        for (int done = 0; done < CALLS; done++) {
            boolean recovers = model.down && numbers.below(6) == 0;
            Call call = recovers ? new Call("recover", 0, 0)
                : sweeps && done > 280 && done % 8 != 0 ? sweep(kind, done) : someCall(numbers, kind, done);
            calls.add(call);
            long got = answer(store, call);
            long want = model.answer(call);
            count(call, got);
            if (got != want || !facesAgree(store, model)) {
                System.out.println("run " + run + ", new ExtendStore(" + blocks + ", " + mostDepth + "), call "
                    + calls.size() + ": " + call + " answered " + got + ", the model " + want);
                return false;
            }
        }
        return true;
    }

    // What can be asked without a key must agree after every call.
    static boolean facesAgree(ExtendStore store, Model model) {
        for (String name : new String[] {"size", "depth", "buckets", "writes", "free"}) {
            Call call = new Call(name, 0, 0);
            if (answer(store, call) != model.answer(call)) {
                System.out.println(call + " answered " + answer(store, call) + ", the model " + model.answer(call));
                return false;
            }
        }
        return true;
    }

    static final Map<String, Integer> seen = new TreeMap<>();

    static void count(Call call, long got) {
        boolean isCode = got == NO_ROOM || got == NO_KEY || got == DOWN;
        if (isCode || call.name().equals("depth")) {
            String name = call.name() + " " + (got == NO_ROOM ? "NO_ROOM" : got == NO_KEY ? "NO_KEY"
                : got == DOWN ? "DOWN" : "" + got);
            seen.merge(name, 1, Integer::sum);
        }
    }

    // A test of runs that never come upon an edge would tell nothing of it.
    static boolean edgesWereSeen() {
        boolean all = true;
        String[] edges = {"put NO_ROOM", "sync NO_ROOM", "sync DOWN", "format DOWN", "remove NO_KEY", "depth 0",
            "depth 1", "depth 2", "depth 3", "depth 4", "depth 5", "depth 6", "depth 7", "depth 8"};
        for (String edge : edges) {
            if (!seen.containsKey(edge)) {
                System.out.println("no run came upon " + edge);
                all = false;
            }
        }
        return all;
    }

    public static void main(String[] args) {
        int wrong = 0;
        for (int run = 0; run < RUNS && wrong < 5; run++) {
            if (!runIsRight(run)) {
                wrong++;
            }
        }
        System.out.println(RUNS + " runs, " + wrong + " wrong; answers seen: " + seen);
        if (!edgesWereSeen() || wrong != 0) {
            System.exit(1);
        }
    }
}
