/**
 * Each sentence of the document that names a boundary of a call: the last number that is allowed
 * and the first that is not, nothing there, one, full, and the refused calls with what they throw.
 */
public final class CallsBoundsTest {
    private static final int NONE = PolicyRack.NONE;
    private static final int FIRST = 0;
    private static final int LATELY = 1;
    private static final int OFTEN = 2;
    private static final int CLOCK = 3;
    private static final int QUEUES = 4;
    private static final int LISTS = 5;

    private static final int MIN = Integer.MIN_VALUE;
    private static final int MAX = Integer.MAX_VALUE;
    private static final int MOST_USES = 300;
    private static final int[] LISTS_OF_WAY = {1, 1, 1, 1, 3, 4};
    private static final int[] NO_CAPACITIES = {0, 65, -1, -64, 128, MIN, MAX};
    private static final int[] NO_KEYS = {-1, 512, -512, 1024, MIN, MAX};

    private static final Check CHECK = new Check("CallsBoundsTest");

    public static void main(String[] args) {
        calls512();
        promise1NewObject();
        promise2Ways();
        promise2Capacities();
        promise2Queues();
        promise2OthersTakeAnyAAndB();
        promise2EightShelves();
        promise2OneMoreShelfEmpty();
        shelvesOfCalls();
        keysOfCalls();
        values();
        promise3Get();
        promise4Put();
        promise5Drop();
        promise6Has();
        promise7Victim();
        promise8ListNumbers();
        promise8Keys();
        promise9ToldNumbers();
        promise9ToldCounts();
        promise10UseKeys();
        promise10FullRow();
        promise10Bits();
        promise10GetAndPut();
        promise11Clear();
        promise12DistanceNumbers();
        promise12Distance();
        promise13Curve();
        promise14Optimum();
        promise15Count();
        whatIsTestedFirst();
        refusedCallsChangeNothing();
        refusedCallsOnAFullRackChangeNothing();
        CHECK.end();
    }

    private static Sentence sentence(int promise, String words) {
        return sentence(promise, words, "");
    }

    private static Sentence sentence(int promise, String words, String tried) {
        return new Sentence(CHECK, promise, words, tried);
    }

    private static String call(String name, int... numbers) {
        StringBuilder text = new StringBuilder(name).append('(');
        for (int i = 0; i < numbers.length; i++) {
            text.append(i == 0 ? "" : ", ").append(numbers[i]);
        }
        return text.append(')').toString();
    }

    private static void calls512() {
        Sentence s = sentence(1, "An object is used for at most 512 calls after it has been made");
        for (int i = 0; i < 8; i++) {
            s.due(call("shelf", i % 6, 1, 1, 1), i);
        }
        s.uses(0, 7);
        for (int i = 1; i < MOST_USES; i++) {
            s.uses(255, 7);
        }
        s.due("clear()", MOST_USES);
        for (int i = 0; i < 200; i++) {
            s.uses(255, 7);
        }
        s.told(4, 499).due("told(7, 5)", 1).due("count(1)", 200);
        Sentence often = sentence(1, "An object is used for at most 512 calls after it has been made",
                "counts of OFTEN");
        often.shelf(OFTEN, 2).puts(1);
        for (int i = 0; i < 250; i++) {
            often.gets(1);
        }
        often.puts(2);
        for (int i = 0; i < 251; i++) {
            often.gets(2);
        }
        often.goes(3, 1).goes(4, 3).list(0, 4, 2).gets(2).told(4, 502).told(5, 0);
    }

    // ---- promises 1 and 2

    private static void promise1NewObject() {
        sentence(1, "No shelves, an empty row.")
                .due("count(0)", 0).due("count(1)", 0).due("count(2)", 0).due("clear()", 0)
                .due("curve(1)", 0).due("curve(64)", 0).due("optimum(1)", 0).due("optimum(64)", 0)
                .due("distance(0)", Check.ARGUMENT).due("told(0, 0)", Check.ARGUMENT)
                .due("use(0)", 0).due("count(1)", 1).due("count(0)", 0);
        // no object knows of another one
        sentence(1, "No shelves, an empty row.", "another object")
                .due("count(0)", 0).due("count(1)", 0).shelf(CLOCK, 1).has(7, 0).uses(0, 7)
                .due("distance(0)", NONE);
        CHECK.due("promise 1 NONE", () -> PolicyRack.NONE, -1);
    }

    private static void promise2Ways() {
        Sentence s = sentence(2, "Illegal argument: no such way or capacity", "ways 0 .. 5");
        for (int way : new int[] {-1, 6, 7, -6, MIN, MAX}) {
            s.aside(call("shelf", way, 1, 1, 1), Check.ARGUMENT);
        }
        s.due("count(0)", 0);
        for (int way = FIRST; way <= LISTS; way++) {
            s.due(call("shelf", way, 1, 1, 1), way).due(call("told", way, 0), way);
        }
        s.undisturbed();
    }

    private static void promise2Capacities() {
        for (int way = FIRST; way <= LISTS; way++) {
            Sentence s = sentence(2, "A SHELF has a WAY and a CAPACITY 1 .. 64");
            for (int capacity : NO_CAPACITIES) {
                s.aside(call("shelf", way, capacity, 1, 1), Check.ARGUMENT);
            }
            s.due("count(0)", 0);
            s.due(call("shelf", way, 1, 1, 1), 0).due("told(0, 1)", 1);
            s.due(call("shelf", way, 64, 1, 1), 1).due("told(1, 1)", 64);
            s.undisturbed();
        }
    }

    private static void promise2Queues() {
        Sentence a = sentence(2, "QUEUES, with a (1 .. capacity) and b (1 .. 64)", "a");
        for (int wrong : new int[] {0, 4, -1, 64, MIN, MAX}) {
            a.aside(call("shelf", QUEUES, 3, wrong, 1), Check.ARGUMENT);
        }
        a.aside(call("shelf", QUEUES, 1, 2, 1), Check.ARGUMENT);
        a.aside(call("shelf", QUEUES, 1, 0, 1), Check.ARGUMENT);
        a.aside(call("shelf", QUEUES, 64, 65, 1), Check.ARGUMENT);
        a.due(call("shelf", QUEUES, 3, 1, 1), 0).due(call("shelf", QUEUES, 3, 3, 1), 1);
        a.due(call("shelf", QUEUES, 1, 1, 1), 2).due(call("shelf", QUEUES, 64, 64, 1), 3);
        a.undisturbed();
        Sentence b = sentence(2, "QUEUES, with a (1 .. capacity) and b (1 .. 64)", "b");
        for (int wrong : NO_CAPACITIES) {
            b.aside(call("shelf", QUEUES, 3, 1, wrong), Check.ARGUMENT);
        }
        b.due(call("shelf", QUEUES, 3, 1, 1), 0).due(call("shelf", QUEUES, 1, 1, 64), 1);
        b.undisturbed();
        sentence(2, "Illegal argument: no such way or capacity, or, for QUEUES, a, b",
                "no such capacity, but a and b are right")
                .due(call("shelf", QUEUES, 0, 1, 1), Check.ARGUMENT)
                .due(call("shelf", QUEUES, 65, 65, 1), Check.ARGUMENT)
                .due(call("shelf", QUEUES, 65, 1, 1), Check.ARGUMENT);
    }

    private static void promise2OthersTakeAnyAAndB() {
        for (int way : new int[] {FIRST, LATELY, OFTEN, CLOCK, LISTS}) {
            for (int any : new int[] {0, -1, 3, 65, MIN, MAX}) {
                sentence(2, "(which count for nothing else)")
                        .due(call("shelf", way, 2, any, any), 0).told(0, way).told(1, 2)
                        .puts(1, 2).goes(3, 1).told(3, 0).told(7, way == CLOCK ? 1 : 0);
            }
        }
    }

    private static void promise2EightShelves() {
        for (int way = FIRST; way <= LISTS; way++) {
            Sentence s = sentence(2, "illegal state: there are 8");
            for (int i = 0; i < 8; i++) {
                s.due("count(0)", i).due(call("shelf", way, 1, 1, 1), i);
            }
            s.aside(call("shelf", way, 1, 1, 1), Check.STATE);
            s.aside(call("shelf", FIRST, 64, 0, 0), Check.STATE);
            s.aside(call("shelf", QUEUES, 64, 64, 64), Check.STATE);
            s.due("count(0)", 8).due("clear()", 0);
            s.aside(call("shelf", way, 1, 1, 1), Check.STATE);
            s.undisturbed();
        }
    }

    private static void promise2OneMoreShelfEmpty() {
        for (int way = FIRST; way <= LISTS; way++) {
            Sentence s = sentence(2, "One more shelf, empty: which one.");
            s.shelf(LATELY, 2).uses(0, 5).uses(1, 5).due(call("shelf", way, 3, 1, 1), 1);
            int[] want = {way, 3, 0, 0, 0, 0, 0, 0};
            for (int what = 0; what < want.length; what++) {
                s.due(call("told", 1, what), want[what]);
            }
            for (int list = 0; list < LISTS_OF_WAY[way]; list++) {
                s.due(call("list", 1, list, 0), NONE);
            }
            s.due("victim(1)", NONE).due("has(1, 5)", 0).due("drop(1, 5)", 0).uses(1, 5).uses(3, 5);
        }
    }

    // ---- shelves, keys and values of calls

    private static void shelvesOfCalls() {
        noSuchShelves(3, "Illegal argument: no such shelf, or key", "get", 1);
        noSuchShelves(4, "PUT: the key that goes; NONE. Illegal argument.", "put", 1, 1);
        noSuchShelves(5, "1 if it was a ghost, else 0. Illegal argument.", "drop", 1);
        noSuchShelves(6, "it is not used by that. Illegal argument.", "has", 1);
        noSuchShelves(7, "neither holds nor remembers; NONE. Illegal argument.", "victim");
        noSuchShelves(8, "Illegal argument: no such shelf, list", "list", 0, 0);
        noSuchShelves(9, "Illegal argument: also another number", "told", 0);
        Sentence last = withShelves(3, "Illegal argument: no such shelf, or key", 8);
        last.due("put(7, 1, 5)", NONE).due("get(7, 1)", 5).due("has(7, 1)", 2).due("list(7, 0, 0)", 1)
                .due("told(7, 2)", 1).due("victim(7)", NONE).due("drop(7, 1)", 2).due("told(0, 2)", 0);
    }

    private static void noSuchShelves(int promise, String words, String name, int... behind) {
        for (int shelves : new int[] {0, 1, 8}) {
            Sentence s = withShelves(promise, words, shelves);
            for (int shelf : new int[] {shelves, shelves + 1, -1, MIN, MAX}) {
                s.aside(callOf(name, shelf, behind), Check.ARGUMENT);
            }
            s.undisturbed();
        }
    }

    private static Sentence withShelves(int promise, String words, int shelves) {
        Sentence s = sentence(promise, words, shelves + " shelves");
        for (int i = 0; i < shelves; i++) {
            s.due(call("shelf", i % 6, 2, 1, 1), i);
        }
        return s;
    }

    private static String callOf(String name, int shelf, int... behind) {
        int[] numbers = new int[behind.length + 1];
        numbers[0] = shelf;
        System.arraycopy(behind, 0, numbers, 1, behind.length);
        return call(name, numbers);
    }

    private static void keysOfCalls() {
        for (int way = FIRST; way <= LISTS; way++) {
            for (int key : new int[] {0, 511}) {
                sentence(4, "KEYS are 0 .. 511", "the first and the last one")
                        .shelf(way, 1).has(key, 0).due(call("drop", 0, key), 0)
                        .due(call("get", 0, key), Check.ELEMENT)
                        .puts(key).gets(key).has(key, 2).victim(key)
                        .goes(256, key).goes(key, 256).uses(1, key).drops(key).has(key, 0);
            }
            noSuchKeys(way, 3, "Illegal argument: no such shelf, or key", "get");
            noSuchKeys(way, 4, "PUT: the key that goes; NONE. Illegal argument.", "put", 1);
            noSuchKeys(way, 5, "1 if it was a ghost, else 0. Illegal argument.", "drop");
            noSuchKeys(way, 6, "it is not used by that. Illegal argument.", "has");
        }
        // NONE stands for a free place: it must not be found as a key
        sentence(6, "KEYS are 0 .. 511", "-1 on an empty shelf")
                .shelf(CLOCK, 1).aside("has(0, -1)", Check.ARGUMENT)
                .aside("get(0, -1)", Check.ARGUMENT).aside("drop(0, -1)", Check.ARGUMENT).undisturbed();
    }

    private static void noSuchKeys(int way, int promise, String words, String name, int... behind) {
        Sentence s = sentence(promise, words, "keys before 0 and behind 511");
        s.shelf(way, 2).puts(0, 511);
        for (int key : NO_KEYS) {
            s.aside(behind.length == 0 ? call(name, 0, key) : call(name, 0, key, behind[0]),
                    Check.ARGUMENT);
        }
        s.told(5, 0).undisturbed();
    }

    private static void values() {
        for (int way = FIRST; way <= LISTS; way++) {
            for (int value : new int[] {MIN, -2, NONE, 0, 1, MAX}) {
                sentence(4, "VALUES are ints")
                        .shelf(way, 1).due(call("put", 0, 9, value), NONE).due("get(0, 9)", value)
                        .due("use(9)", 1).due("get(0, 9)", value);
            }
        }
    }

    // ---- promises 3 to 6

    private static void promise3Get() {
        for (int way = FIRST; way <= LISTS; way++) {
            sentence(3, "no such element: a miss", "nothing there")
                    .shelf(way, 1).due("get(0, 0)", Check.ELEMENT).due("get(0, 511)", Check.ELEMENT)
                    .told(4, 0).told(5, 2).told(2, 0);
            sentence(3, "no such element: a miss", "one there, then another")
                    .shelf(way, 1).puts(1).gets(1).due("get(0, 2)", Check.ELEMENT).gets(1)
                    .goes(2, 1).due("get(0, 1)", Check.ELEMENT).gets(2).told(4, 3).told(5, 2);
            sentence(3, "it changes nothing, but get() counts a miss")
                    .shelf(way, 3).puts(1, 2, 3).asideButAMiss("get(0, 4)")
                    .asideButAMiss("get(0, 4)").undisturbed();
            sentence(3, "it changes nothing, but get() counts a miss", "no such key is none")
                    .shelf(way, 1).due("get(0, 512)", Check.ARGUMENT)
                    .due("get(0, -1)", Check.ARGUMENT).due("get(1, 0)", Check.ARGUMENT).told(5, 0);
        }
    }

    private static void promise4Put() {
        for (int way = FIRST; way <= LISTS; way++) {
            sentence(4, "PUT: the key that goes; NONE.", "0 and 511 go, a held key is put, room")
                    .shelf(way, 1).puts(0).puts(0).goes(511, 0).goes(1, 511).drops(1).puts(2);
            sentence(4, "PUT of a key that it holds: its value is replaced", "of a full shelf")
                    .shelf(way, 2).puts(1, 2).puts(1, 2, 2, 1).told(2, 2).told(6, 0);
        }
    }

    private static void promise5Drop() {
        sentence(5, "2 if it was held, 1 if it was a ghost, else 0", "QUEUES")
                .queues(1, 1, 1).puts(1).goes(2, 1)
                .due("drop(0, 2)", 2).due("drop(0, 1)", 1).due("drop(0, 3)", 0)
                .due("drop(0, 2)", 0).due("drop(0, 1)", 0).told(2, 0).told(3, 0).told(6, 1);
        // 3 / 1 / 2 / -
        sentence(5, "2 if it was held, 1 if it was a ghost, else 0", "LISTS")
                .shelf(LISTS, 2).putsAndGets(1).puts(2).goes(3, 2)
                .due("drop(0, 3)", 2).due("drop(0, 1)", 2).due("drop(0, 2)", 1)
                .due("drop(0, 1)", 0).due("drop(0, 2)", 0).due("drop(0, 3)", 0)
                .told(2, 0).told(3, 0).told(6, 1);
        sentence(5, "2 if it was held, 1 if it was a ghost, else 0", "a ghost of TWICE")
                .shelf(LISTS, 1).putsAndGets(1).goes(2, 1).due("drop(0, 1)", 1).due("drop(0, 1)", 0);
        for (int way = FIRST; way <= LISTS; way++) {
            sentence(5, "2 if it was held, 1 if it was a ghost, else 0",
                    "the last one, then it fills again")
                    .shelf(way, 2).puts(1, 2).drops(2, 1).told(2, 0).victim(NONE).list(0)
                    .puts(3).victim(NONE).puts(4).victim(3).goes(5, 3);
        }
    }

    private static void promise6Has() {
        for (int way = FIRST; way <= LISTS; way++) {
            sentence(6, "2 if the key is held, 1 if it is a ghost, else 0")
                    .shelf(way, 1).has(0, 0).has(511, 0).puts(0).has(0, 2).has(511, 0)
                    .goes(511, 0).has(0, way == QUEUES ? 1 : 0).has(511, 2);
            sentence(6, "it is not used by that")
                    .shelf(way, 2).puts(1, 2).aside("has(0, 1)", 2).aside("has(0, 1)", 2)
                    .aside("has(0, 3)", 0).undisturbed();
        }
        sentence(6, "it is not used by that", "a key of MAIN, a ghost")
                .queues(3, 1, 2).puts(1, 2, 3).goes(4, 1).goes(1, 2).goes(2, 3).list(1, 1, 2)
                .aside("has(0, 1)", 2).aside("has(0, 3)", 1).undisturbed();
        sentence(6, "2 if the key is held, 1 if it is a ghost, else 0", "of ONCE, of TWICE")
                .shelf(LISTS, 2).putsAndGets(1).puts(2).goes(3, 2).has(2, 1).has(3, 2).has(1, 2)
                .goes(2, 1).has(1, 1).has(2, 2);
    }

    // ---- promises 7 to 9

    private static void promise7Victim() {
        for (int way = FIRST; way <= LISTS; way++) {
            for (int capacity : new int[] {1, 3}) {
                Sentence s = sentence(7, "The key that would go if one came",
                        "empty, not full, full");
                s.shelf(way, capacity).aside("victim(0)", NONE);
                for (int key = 0; key < capacity; key++) {
                    s.aside("victim(0)", NONE).puts(key);
                }
                s.aside("victim(0)", 0).goes(511, 0).aside("victim(0)", capacity == 1 ? 511 : 1);
                s.drops(511).aside("victim(0)", NONE).undisturbed();
            }
        }
        // 3 / 1 / 2 / -, target 0: for the ghost 2 the target would be 1
        sentence(7, "if one came that the shelf neither holds nor remembers", "(1) of LISTS")
                .shelf(LISTS, 2).putsAndGets(1).puts(2).goes(3, 2).victim(3).goes(2, 1);
        // 5 / 4 / - / 1 3, target 2: for the ghost 1 the target would be 1
        sentence(7, "if one came that the shelf neither holds nor remembers", "(2) of LISTS")
                .shelf(LISTS, 2).putsAndGets(1, 2).goes(3, 1).goes(4, 3).goes(1, 4).goes(3, 2)
                .goes(4, 1).goes(5, 3).victim(4).goes(1, 5);
        sentence(7, "The key that would go if one came", "no mark is cleared, the hand stays")
                .shelf(CLOCK, 3).puts(1, 2, 3).gets(1, 2).aside("victim(0)", 3).told(7, 0)
                .gets(3).aside("victim(0)", 1).told(7, 0).undisturbed();
    }

    private static void promise8ListNumbers() {
        for (int way = FIRST; way <= LISTS; way++) {
            Sentence s = sentence(8, "Illegal argument: no such shelf, list");
            s.shelf(way, 2).puts(1, 2);
            int lists = LISTS_OF_WAY[way];
            for (int list : new int[] {lists, lists + 1, 5, -1, MIN, MAX}) {
                s.aside(call("list", 0, list, 0), Check.ARGUMENT);
            }
            s.aside(call("list", 0, 0, 0), 1);
            s.aside(call("list", 0, lists - 1, 0), lists == 1 ? 1 : NONE);
            s.undisturbed();
        }
    }

    private static void promise8Keys() {
        for (int way = FIRST; way <= LISTS; way++) {
            Sentence s = sentence(8, "NONE, where there is none");
            s.shelf(way, 64);
            for (int i : new int[] {0, 1, 63, 64, -1, MIN, MAX}) {
                s.aside(call("list", 0, 0, i), NONE);
            }
            for (int key = 0; key < 64; key++) {
                s.puts(100 + key);
            }
            s.aside("list(0, 0, 0)", 100).aside("list(0, 0, 63)", 163);
            for (int i : new int[] {64, 65, 511, 512, -1, -64, MIN, MAX}) {
                s.aside(call("list", 0, 0, i), NONE);
            }
            s.undisturbed();
        }
        sentence(8, "(a free place of a CLOCK, too)")
                .shelf(CLOCK, 3).list(0).puts(1, 2, 3).drops(2).due("list(0, 0, 0)", 1)
                .due("list(0, 0, 1)", NONE).due("list(0, 0, 2)", 3).drops(1)
                .due("list(0, 0, 0)", NONE).due("list(0, 0, 2)", 3);
        sentence(8, "NONE, where there is none", "of each list of QUEUES")
                .queues(2, 1, 1).puts(1, 2).goes(3, 1).goes(1, 2).list(0, 3).list(1, 1).list(2, 2)
                .due("list(0, 0, -1)", NONE).due("list(0, 1, -1)", NONE).due("list(0, 2, -1)", NONE);
        sentence(8, "NONE, where there is none", "of each list of LISTS")
                .shelf(LISTS, 2).putsAndGets(1, 2).goes(3, 1).goes(4, 3)
                .list(0, 4).list(1, 2).list(2, 3).list(3, 1)
                .due("list(0, 0, -1)", NONE).due("list(0, 1, -1)", NONE)
                .due("list(0, 2, -1)", NONE).due("list(0, 3, -1)", NONE);
    }

    private static void promise9ToldNumbers() {
        for (int way = FIRST; way <= LISTS; way++) {
            Sentence s = sentence(9, "Illegal argument: also another number");
            s.shelf(way, 2).puts(1, 2).gets(2);
            for (int what : new int[] {-1, 8, 9, -8, MIN, MAX}) {
                s.aside(call("told", 0, what), Check.ARGUMENT);
            }
            int[] want = {way, 2, 2, 0, 1, 0, 0, 0};
            for (int what = 0; what < want.length; what++) {
                s.aside(call("told", 0, what), want[what]);
            }
            s.undisturbed();
        }
    }

    private static void promise9ToldCounts() {
        sentence(9, "6 how many went (for a key that came; DROP and forgotten ghosts do not count)")
                .queues(1, 1, 1).puts(1).told(6, 0).goes(2, 1).told(6, 1).goes(3, 2).has(1, 0)
                .told(6, 2).drops(3).told(6, 2).due("drop(0, 2)", 1).told(6, 2).puts(4).told(6, 2);
        sentence(9, "6 how many went (for a key that came; DROP and forgotten ghosts do not count)",
                "the first of ONCE that is forgotten went")
                .shelf(LISTS, 1).puts(1).goes(2, 1).told(6, 1).told(3, 0);
        sentence(9, "6 how many went (for a key that came; DROP and forgotten ghosts do not count)",
                "a ghost of ONCE is forgotten, of a USE one goes")
                .shelf(LISTS, 2).putsAndGets(1).puts(2).goes(3, 2).goes(4, 3).has(2, 0).told(6, 2)
                .uses(0, 5).told(6, 3);
        sentence(9, "3 how many ghosts", "0, 1, b")
                .queues(1, 1, 2).told(3, 0).puts(1).told(3, 0).goes(2, 1).told(3, 1)
                .goes(3, 2).told(3, 2).goes(4, 3).told(3, 2);
        // 4 / 2 / 3 / 1
        sentence(9, "3 how many ghosts", "of both ONCE and TWICE")
                .shelf(LISTS, 2).putsAndGets(1, 2).goes(3, 1).told(3, 1).goes(4, 3).told(3, 2);
        for (int way = FIRST; way <= LISTS; way++) {
            sentence(9, "4 hits, 5 misses (of GET, those of USES too)", "a PUT is neither")
                    .shelf(way, 1).told(4, 0).told(5, 0).puts(1).told(5, 0).puts(1).told(4, 0)
                    .gets(1).told(4, 1).due("get(0, 2)", Check.ELEMENT).told(5, 1)
                    .uses(1, 1).told(4, 2).told(5, 1).uses(0, 2).told(4, 2).told(5, 2)
                    .drops(2).uses(0, 2).told(5, 3).has(2, 2).told(4, 2);
        }
        for (int way : new int[] {FIRST, LATELY, OFTEN, QUEUES}) {
            sentence(9, "7 the hand of a CLOCK, the target of LISTS, 0 of others")
                    .shelf(way, 1).told(7, 0).puts(1).goes(2, 1).goes(1, 2).goes(2, 1).told(7, 0);
        }
    }

    // ---- promises 10 and 11

    private static void promise10UseKeys() {
        Sentence s = sentence(10, "Illegal argument: no such key");
        s.shelf(FIRST, 2).uses(0, 0, 511).uses(1, 0, 511);
        for (int key : NO_KEYS) {
            s.aside(call("use", key), Check.ARGUMENT);
        }
        s.due("count(1)", 4).due("count(2)", 2).undisturbed();
    }

    private static void promise10FullRow() {
        Sentence s = sentence(10, "THE ROW of uses has at most 300 keys");
        s.shelf(LATELY, 2).due("shelf(2, 1, 0, 0)", 1);
        for (int i = 0; i < MOST_USES - 1; i++) {
            s.uses(0, i);
        }
        s.due("count(1)", 299).uses(0, 299).due("count(1)", 300).due("count(2)", 300);
        s.due("has(0, 299)", 2).due("told(0, 5)", 300).due("told(0, 6)", 298);
        s.aside("use(299)", Check.STATE).aside("use(0)", Check.STATE).aside("use(511)", Check.STATE);
        s.due("told(0, 4)", 0).due("get(0, 299)", 300).undisturbed();
        Sentence cleared = sentence(10, "illegal state: the row is full", "not behind clear()");
        for (int i = 0; i < MOST_USES; i++) {
            cleared.uses(0, 5);
        }
        cleared.due("use(5)", Check.STATE).due("clear()", 300).uses(0, 5).due("count(1)", 1);
    }

    private static void promise10Bits() {
        sentence(10, "the shelves that had a hit, as bits", "no shelf")
                .uses(0, 5, 5).due("count(1)", 2);
        for (int i = 0; i < 8; i++) {
            Sentence s = sentence(10, "the shelves that had a hit, as bits",
                    "one of eight, then all");
            for (int shelf = 0; shelf < 8; shelf++) {
                s.due(call("shelf", (shelf + i) % 6, 2, 1, 1), shelf);
            }
            s.due(call("put", i, 9, 1), NONE).uses(1 << i, 9).uses(255, 9);
            s.due(call("drop", i, 9), 2).uses(255 - (1 << i), 9);
        }
    }

    private static void promise10GetAndPut() {
        for (int way = FIRST; way <= LISTS; way++) {
            sentence(10, "each shelf in turn does GET, and on a miss PUT with how many uses the row has now")
                    .shelf(way, 2).uses(0, 5).due("get(0, 5)", 1).uses(1, 5).due("get(0, 5)", 1)
                    .uses(0, 6).due("get(0, 6)", 3).due("clear()", 3).uses(1, 6).due("get(0, 6)", 3)
                    .drops(6).uses(0, 6).due("get(0, 6)", 2).told(4, 7).told(5, 3);
            sentence(10, "and on a miss PUT with how many uses the row has now", "one goes")
                    .shelf(way, 1).uses(0, 0, 511).has(0, way == QUEUES ? 1 : 0).has(511, 2)
                    .due("get(0, 511)", 2).told(6, 1);
        }
        sentence(10, "and on a miss PUT with how many uses the row has now", "a ghost comes")
                .queues(1, 1, 1).uses(0, 1, 2, 1).list(0).list(1, 1).list(2, 2).due("get(0, 1)", 3);
    }

    private static void promise11Clear() {
        sentence(11, "The row is empty again, shelves stay: how many uses it had.", "0, 1, 2")
                .due("clear()", 0).uses(0, 3).due("clear()", 1).due("clear()", 0)
                .uses(0, 3, 3).due("clear()", 2).due("count(1)", 0).due("count(2)", 0)
                .due("curve(1)", 0).due("optimum(1)", 0).due("distance(0)", Check.ARGUMENT)
                .uses(0, 3).due("distance(0)", NONE).due("count(2)", 1).due("optimum(1)", 1);
        Sentence full = sentence(11, "The row is empty again, shelves stay: how many uses it had.",
                "300");
        for (int i = 0; i < MOST_USES; i++) {
            full.uses(0, i);
        }
        full.due("clear()", 300).due("count(1)", 0).due("count(2)", 0).due("clear()", 0)
                .uses(0, 299, 0, 299).due("distance(2)", 1).due("count(2)", 2).due("curve(2)", 2);
        for (int way = FIRST; way <= LISTS; way++) {
            sentence(11, "shelves stay")
                    .shelf(way, 2).puts(1, 2).gets(1).goes(3, way == FIRST || way == QUEUES ? 1 : 2)
                    .aside("clear()", 0).aside("clear()", 0).due("count(0)", 1).undisturbed();
            sentence(11, "shelves stay", "and what they did is still told")
                    .shelf(way, 1).uses(0, 1).uses(1, 1).uses(0, 2).due("clear()", 3).due("count(0)", 1)
                    .told(2, 1).told(4, 1).told(5, 2).told(6, 1).has(2, 2).due("get(0, 2)", 3);
        }
    }

    // ---- promises 12 to 15

    private static void promise12DistanceNumbers() {
        sentence(12, "Illegal argument: there is no such use", "an empty row")
                .aside("distance(0)", Check.ARGUMENT).aside("distance(-1)", Check.ARGUMENT)
                .aside("distance(1)", Check.ARGUMENT).undisturbed();
        sentence(12, "Illegal argument: there is no such use", "one use")
                .uses(0, 4).aside("distance(0)", NONE).aside("distance(1)", Check.ARGUMENT)
                .aside("distance(-1)", Check.ARGUMENT).undisturbed();
        Sentence full = sentence(12, "Illegal argument: there is no such use", "a full row");
        for (int i = 0; i < MOST_USES; i++) {
            full.uses(0, 4);
        }
        full.aside("distance(0)", NONE).aside("distance(299)", 0);
        for (int i : new int[] {300, 301, -1, MIN, MAX}) {
            full.aside(call("distance", i), Check.ARGUMENT);
        }
        full.undisturbed();
        sentence(12, "Illegal argument: there is no such use", "what was cleared is none")
                .uses(0, 1, 2, 1).due("clear()", 3).uses(0, 1).due("distance(0)", NONE)
                .due("distance(1)", Check.ARGUMENT).due("distance(2)", Check.ARGUMENT);
    }

    private static void promise12Distance() {
        sentence(12, "NONE of a key that was not used before")
                .uses(0, 0, 511, 7).due("distance(0)", NONE).due("distance(1)", NONE)
                .due("distance(2)", NONE);
        sentence(12, "(between both uses: 0 if none)")
                .uses(0, 5, 5, 5).due("distance(1)", 0).due("distance(2)", 0);
        sentence(12, "how many different keys were used since that key was used last", "1, 2")
                .uses(0, 5, 6, 5).due("distance(2)", 1).uses(0, 7, 6).due("distance(4)", 2)
                .due("distance(2)", 1);
        sentence(12, "how many different keys were used since that key was used last", "each once")
                .uses(0, 5, 6, 6, 7, 6, 7, 5).due("distance(6)", 2).due("distance(5)", 1);
        sentence(12, "how many different keys were used since that key was used last",
                "last, not first")
                .uses(0, 5, 6, 7, 5, 8, 5).due("distance(3)", 2).due("distance(5)", 1);
        Sentence wide = sentence(12, "how many different keys were used since that key was used last",
                "298");
        for (int i = 0; i < MOST_USES - 1; i++) {
            wide.uses(0, i);
        }
        wide.uses(0, 0).due("distance(299)", 298).due("distance(298)", NONE);
    }

    private static void promise13Curve() {
        noSuchCapacities(sentence(13, "Illegal argument: not 1 .. 64",
                "an empty row"), "curve", 0, 0);
        noSuchCapacities(sentence(13, "Illegal argument: not 1 .. 64").uses(0, 1, 2, 1), "curve", 3, 2);
        sentence(13, "how many uses of the row have no distance", "one")
                .uses(0, 3).due("curve(1)", 1).due("curve(64)", 1);
        sentence(13, "or one not below the capacity", "0 is below 1")
                .uses(0, 3, 3, 3).due("curve(1)", 1).due("curve(2)", 1);
        sentence(13, "or one not below the capacity", "1 is not below 1, but below 2")
                .uses(0, 3, 4, 3).due("curve(1)", 3).due("curve(2)", 2);
        Sentence below = sentence(13, "or one not below the capacity", "63");
        for (int i = 0; i < 128; i++) {
            below.uses(0, i % 64);
        }
        below.due("distance(127)", 63).due("curve(63)", 128).due("curve(64)", 64);
        Sentence not = sentence(13, "or one not below the capacity", "64");
        for (int i = 0; i < 130; i++) {
            not.uses(0, i % 65);
        }
        not.due("distance(129)", 64).due("curve(64)", 130);
        Sentence full = sentence(13, "how many uses of the row have no distance", "300");
        for (int i = 0; i < MOST_USES; i++) {
            full.uses(0, i);
        }
        full.due("curve(1)", 300).due("curve(64)", 300);
    }

    private static void noSuchCapacities(Sentence s, String name, int of1, int of64) {
        for (int capacity : NO_CAPACITIES) {
            s.aside(call(name, capacity), Check.ARGUMENT);
        }
        s.aside(call(name, 1), of1).aside(call(name, 64), of64).undisturbed();
    }

    private static void promise14Optimum() {
        noSuchCapacities(sentence(14, "Illegal argument: not 1 .. 64",
                "an empty row"), "optimum", 0, 0);
        noSuchCapacities(sentence(14, "Illegal argument: not 1 .. 64").uses(0, 1, 2, 1), "optimum", 3, 2);
        sentence(14, "that holds nothing at first")
                .uses(0, 3).due("optimum(1)", 1).due("optimum(64)", 1)
                .uses(0, 3, 3).due("optimum(1)", 1);
        sentence(14, "gets each key as it is used, and holds it then")
                .uses(0, 1, 2, 1, 3, 1).due("optimum(1)", 5).due("optimum(2)", 3).due("optimum(3)", 3);
        sentence(14, "gets each key as it is used, and holds it then")
                .uses(0, 1, 1, 2, 2, 1).due("optimum(1)", 3).due("optimum(2)", 2);
        sentence(14, "the least number of misses that any cache of it can have on the row")
                .uses(0, 1, 2, 3, 1, 2, 3).due("optimum(2)", 4).due("optimum(1)", 6).due("optimum(3)", 3)
                .due("optimum(2)", 4).due("curve(2)", 6);
        Sentence fits = sentence(14, "the least number of misses that any cache of it can have on the row",
                "64 keys twice");
        for (int i = 0; i < 128; i++) {
            fits.uses(0, i % 64);
        }
        fits.due("optimum(64)", 64).due("optimum(63)", 65);
        Sentence over = sentence(14, "the least number of misses that any cache of it can have on the row",
                "65 keys twice");
        for (int i = 0; i < 130; i++) {
            over.uses(0, i % 65);
        }
        over.due("optimum(64)", 66);
        Sentence full = sentence(14, "the least number of misses that any cache of it can have on the row",
                "150 keys twice");
        for (int i = 0; i < MOST_USES; i++) {
            full.uses(0, i % 150);
        }
        full.due("optimum(64)", 236).due("optimum(1)", 300);
    }

    private static void promise15Count() {
        Sentence s = sentence(15, "Illegal argument: another number");
        for (int what : new int[] {-1, 3, 4, MIN, MAX}) {
            s.aside(call("count", what), Check.ARGUMENT);
        }
        s.aside("count(0)", 0).aside("count(1)", 0).aside("count(2)", 0).undisturbed();
        sentence(15, "1 uses of the row, 2 different keys in it")
                .uses(0, 0).due("count(1)", 1).due("count(2)", 1).uses(0, 0).due("count(1)", 2)
                .due("count(2)", 1).uses(0, 511).due("count(2)", 2).uses(0, 0).due("count(2)", 2)
                .due("use(512)", Check.ARGUMENT).due("count(1)", 4).due("count(2)", 2);
        Sentence many = sentence(15, "1 uses of the row, 2 different keys in it", "300");
        for (int i = 0; i < MOST_USES; i++) {
            many.uses(0, 511 - i);
        }
        many.due("count(1)", 300).due("count(2)", 300);
    }

    // ---- the last sentence of 'Terms'

    private static void whatIsTestedFirst() {
        Sentence shelf = sentence(2, "What a call that throws names first is tested first",
                "shelf()");
        for (int i = 0; i < 8; i++) {
            shelf.due(call("shelf", i % 6, 2, 1, 1), i);
        }
        shelf.due("shelf(6, 1, 1, 1)", Check.ARGUMENT).due("shelf(-1, 1, 1, 1)", Check.ARGUMENT)
                .due("shelf(0, 0, 1, 1)", Check.ARGUMENT).due("shelf(0, 65, 1, 1)", Check.ARGUMENT)
                .due("shelf(4, 2, 0, 1)", Check.ARGUMENT).due("shelf(4, 2, 3, 1)", Check.ARGUMENT)
                .due("shelf(4, 2, 1, 0)", Check.ARGUMENT).due("shelf(4, 2, 1, 65)", Check.ARGUMENT)
                .due("shelf(4, 2, 1, 1)", Check.STATE).due("shelf(0, 2, 0, 0)", Check.STATE);
        Sentence use = sentence(10, "What a call that throws names first is tested first", "use()");
        for (int i = 0; i < MOST_USES; i++) {
            use.uses(0, 1);
        }
        use.due("use(-1)", Check.ARGUMENT).due("use(512)", Check.ARGUMENT).due("use(0)", Check.STATE)
                .due("use(511)", Check.STATE);
        for (int way = FIRST; way <= LISTS; way++) {
            sentence(3, "What a call that throws names first is tested first", "get()")
                    .shelf(way, 1)
                    .aside("get(0, -1)", Check.ARGUMENT).aside("get(0, 512)", Check.ARGUMENT)
                    .aside("get(1, 0)", Check.ARGUMENT).aside("get(1, 512)", Check.ARGUMENT)
                    .undisturbed();
        }
    }

    private static void refusedCallsChangeNothing() {
        for (int way = FIRST; way <= LISTS; way++) {
            Sentence s = sentence(4, "it changes nothing, but get() counts a miss",
                    "refused calls");
            s.shelf(way, 3).uses(0, 1, 2, 3).uses(1, 1).due("put(0, 2, 7)", NONE).uses(0, 4, 5, 6);
            refuseAll(s);
            s.undisturbed();
        }
        Sentence clock = sentence(4, "it changes nothing, but get() counts a miss",
                "marks and the hand");
        clock.shelf(CLOCK, 3).puts(1, 2, 3).goes(4, 1).gets(4, 2);
        refuseAll(clock);
        clock.undisturbed();
        // 4 5 / 2 / 3 / 1, target 1
        Sentence lists = sentence(4, "it changes nothing, but get() counts a miss",
                "a target and ghosts");
        lists.shelf(LISTS, 3).putsAndGets(1).puts(2, 3).goes(4, 2).goes(2, 3).goes(5, 1).told(7, 1);
        refuseAll(lists);
        lists.undisturbed();
    }

    private static void refuseAll(Sentence s) {
        s.aside("shelf(6, 1, 1, 1)", Check.ARGUMENT).aside("shelf(4, 1, 2, 1)", Check.ARGUMENT)
                .aside("get(0, 512)", Check.ARGUMENT).aside("get(-1, 1)", Check.ARGUMENT)
                .aside("put(0, 512, 1)", Check.ARGUMENT).aside("put(0, -1, 1)", Check.ARGUMENT)
                .aside("put(1, 1, 1)", Check.ARGUMENT).aside("drop(0, -1)", Check.ARGUMENT)
                .aside("drop(0, 512)", Check.ARGUMENT).aside("drop(1, 1)", Check.ARGUMENT)
                .aside("has(0, -1)", Check.ARGUMENT).aside("has(1, 1)", Check.ARGUMENT)
                .aside("victim(1)", Check.ARGUMENT).aside("list(0, -1, 0)", Check.ARGUMENT)
                .aside("list(0, 4, 0)", Check.ARGUMENT).aside("told(0, 8)", Check.ARGUMENT)
                .aside("use(-1)", Check.ARGUMENT).aside("use(512)", Check.ARGUMENT)
                .aside("distance(-1)", Check.ARGUMENT).aside("distance(300)", Check.ARGUMENT)
                .aside("curve(0)", Check.ARGUMENT).aside("optimum(65)", Check.ARGUMENT)
                .aside("count(3)", Check.ARGUMENT)
                .asideButAMiss("get(0, 9)").asideButAMiss("get(0, 0)");
    }

    private static void refusedCallsOnAFullRackChangeNothing() {
        Sentence s = sentence(10, "it changes nothing, but get() counts a miss",
                "full rack, full row");
        for (int i = 0; i < 8; i++) {
            s.due(call("shelf", i % 6, 2, 1, 2), i);
        }
        for (int i = 0; i < MOST_USES; i++) {
            s.uses(0, MOST_USES - 1 - i);
        }
        s.aside("use(0)", Check.STATE).aside("use(9)", Check.STATE);
        s.aside("shelf(0, 1, 0, 0)", Check.STATE);
        s.undisturbed();
    }
}
