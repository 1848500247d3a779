import java.util.function.IntSupplier;

/** Fixed runs of calls, the program against the model, at most 512 calls an object. */
public final class ModelTest {
    private static final int RUNS = 4000;
    private static final int CALLS = 512;
    private static final int FEW_KEYS = 9;

    private final Check check;
    private final int run;
    private final PolicyRack rack = new PolicyRack();
    private final Model model = new Model();
    private final int keys;
    private final int mostCapacity;
    private long state;
    private int calls;

    private ModelTest(Check check, int run) {
        this.check = check;
        this.run = run;
        state = run * 7919L + 1;
        boolean few = run % 2 == 0;
        mostCapacity = few ? 5 : 64;
        keys = few ? 2 + below(FEW_KEYS - 1) : 2 + below(200);
    }

    public static void main(String[] args) {
        Check check = new Check("ModelTest");
        for (int run = 0; run < RUNS && !check.failed(); run++) {
            new ModelTest(check, run).go();
        }
        check.end();
    }

    private void go() {
        int shelves = below(9);
        for (int i = 0; i < shelves; i++) {
            addShelf();
        }
        boolean mostlyUses = below(2) == 0;
        while (calls < CALLS) {
            if (mostlyUses && below(3) > 0) {
                use();
            } else {
                anyCall();
            }
        }
    }

    private void anyCall() {
        switch (below(16)) {
            case 0: addShelf(); break;
            case 1: case 2: get(); break;
            case 3: case 4: case 5: case 6: case 7: put(); break;
            case 8: drop(); break;
            case 9: has(); break;
            case 10: victim(); break;
            case 11: case 12: list(); break;
            case 13: told(); break;
            case 14: use(); break;
            default: ofTheRow(); break;
        }
    }

    private void ofTheRow() {
        switch (below(8)) {
            case 0: case 1: distance(); break;
            case 2: case 3: curve(); break;
            case 4: case 5: optimum(); break;
            case 6: count(); break;
            default: clearSeldom(); break;
        }
    }

    private void addShelf() {
        int way = oddly(below(6), 6);
        int capacity = oddly(1 + below(mostCapacity), 65);
        int a = oddly(1 + below(Math.max(1, capacity)), 65);
        int b = oddly(1 + below(mostCapacity), 65);
        ask("shelf(" + way + ", " + capacity + ", " + a + ", " + b + ")",
                () -> rack.shelf(way, capacity, a, b), () -> model.shelf(way, capacity, a, b));
    }

    private void get() {
        int shelf = someShelf();
        int key = someKey();
        ask("get(" + shelf + ", " + key + ")", () -> rack.get(shelf, key), () -> model.get(shelf, key));
    }

    private void put() {
        int shelf = someShelf();
        int key = someKey();
        int value = below(1000) - 500;
        ask("put(" + shelf + ", " + key + ", " + value + ")",
                () -> rack.put(shelf, key, value), () -> model.put(shelf, key, value));
    }

    private void drop() {
        int shelf = someShelf();
        int key = someKey();
        ask("drop(" + shelf + ", " + key + ")", () -> rack.drop(shelf, key), () -> model.drop(shelf, key));
    }

    private void has() {
        int shelf = someShelf();
        int key = someKey();
        ask("has(" + shelf + ", " + key + ")", () -> rack.has(shelf, key), () -> model.has(shelf, key));
    }

    private void victim() {
        int shelf = someShelf();
        ask("victim(" + shelf + ")", () -> rack.victim(shelf), () -> model.victim(shelf));
    }

    private void list() {
        int shelf = someShelf();
        int list = oddly(below(5), 4);
        int i = oddly(below(mostCapacity + 1), 600);
        ask("list(" + shelf + ", " + list + ", " + i + ")",
                () -> rack.list(shelf, list, i), () -> model.list(shelf, list, i));
    }

    private void told() {
        int shelf = someShelf();
        int what = oddly(below(8), 8);
        ask("told(" + shelf + ", " + what + ")", () -> rack.told(shelf, what), () -> model.told(shelf, what));
    }

    private void use() {
        int key = someKey();
        ask("use(" + key + ")", () -> rack.use(key), () -> model.use(key));
    }

    private void clearSeldom() {
        if (below(3) == 0) {
            ask("clear()", rack::clear, model::clear);
        }
    }

    private void distance() {
        int i = oddly(below(Math.max(1, model.row.size())), model.row.size());
        ask("distance(" + i + ")", () -> rack.distance(i), () -> model.distance(i));
    }

    private void curve() {
        int capacity = oddly(1 + below(mostCapacity), 65);
        ask("curve(" + capacity + ")", () -> rack.curve(capacity), () -> model.curve(capacity));
    }

    private void optimum() {
        int capacity = oddly(1 + below(mostCapacity), 65);
        ask("optimum(" + capacity + ")", () -> rack.optimum(capacity), () -> model.optimum(capacity));
    }

    private void count() {
        int what = oddly(below(3), 3);
        ask("count(" + what + ")", () -> rack.count(what), () -> model.count(what));
    }

    private void ask(String call, IntSupplier got, IntSupplier want) {
        calls++;
        check.same("run " + run + ", call " + calls + ": " + call,
                Check.answerOf(got), Check.answerOf(want));
    }

    private int someShelf() {
        return oddly(below(Math.max(1, model.caches.size())), model.caches.size());
    }

    // half of the keys come from a third of them, so that some are used often
    private int someKey() {
        int key = below(2) == 0 ? below(keys) : below(1 + keys / 3);
        return oddly(key, 512);
    }

    /** Now and then a number that is not among the usual ones. */
    private int oddly(int usual, int odd) {
        switch (below(200)) {
            case 0: return odd;
            case 1: return -1;
            case 2: return 0;
            default: return usual;
        }
    }

    private int below(int bound) {
        state = state * 6364136223846793005L + 1442695040888963407L;
        return (int) ((state >>> 33) % bound);
    }
}
