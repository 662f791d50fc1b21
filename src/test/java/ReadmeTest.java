// The example in README.md, line by line, so that it can't tell what the class doesn't do.
public final class ReadmeTest {
    private static int wrong = 0;

    private static void due(String line, int got, int want) {
        if (got != want) {
            wrong++;
            System.out.println(line + " answered " + got + ", README.md says " + want);
        }
    }

    public static void main(String[] args) {
        ExtendStore store = new ExtendStore(40, 6);
        due("store.put(7, 70)", store.put(7, 70), 0);
        due("store.get(7)", store.get(7), 70);
        due("store.get(8)", store.get(8), 0);
        due("store.has(8)", store.has(8) ? 1 : 0, 0);
        due("store.remove(8)", store.remove(8), ExtendStore.NO_KEY);
        due("store.sync()", store.sync(), 0);
        due("store.put(7, 71)", store.put(7, 71), 0);
        store.crashAfter(1);
        due("store.sync() that crashes", store.sync(), ExtendStore.DOWN);
        due("store.get(7) when down", store.get(7), ExtendStore.DOWN);
        due("store.recover()", store.recover(), 0);
        due("store.get(7) at the end", store.get(7), 70);
        if (wrong != 0) {
            System.exit(1);
        }
        System.out.println("the example in README.md holds");
    }
}
