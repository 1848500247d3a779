import java.util.ArrayList;
import java.util.List;

/** Each promise by its number, with answers worked out by hand from the document. */
public final class PromisesTest {
    private static final int NONE = PolicyRack.NONE;
    private static final int FIRST = 0;
    private static final int LATELY = 1;
    private static final int OFTEN = 2;
    private static final int CLOCK = 3;
    private static final int QUEUES = 4;
    private static final int LISTS = 5;

    private static final Check CHECK = new Check("PromisesTest");

    public static void main(String[] args) {
        promise1NewObject();
        promise2Shelf();
        promise3Get();
        promise4PutFirst();
        promise4PutLately();
        promise4PutOften();
        promise4PutClock();
        promise4PutQueues();
        promise4PutLists();
        promise4PutListsTarget();
        promise4PutListsJustTarget();
        promise4PutWrong();
        promise5Drop();
        promise5DropOfLists();
        promise6Has();
        promise7Victim();
        promise8List();
        promise9Told();
        promise10Use();
        promise11Clear();
        promise12Distance();
        promise13Curve();
        promise14Optimum();
        promise15Count();
        CHECK.end();
    }

    private static PolicyRack rackWith(int way, int capacity) {
        PolicyRack rack = new PolicyRack();
        rack.shelf(way, capacity, 0, 0);
        return rack;
    }

    private static PolicyRack rackWithQueues(int capacity, int a, int b) {
        PolicyRack rack = new PolicyRack();
        rack.shelf(QUEUES, capacity, a, b);
        return rack;
    }

    /** Puts keys with ten times the key as value, and answers what went. */
    private static List<Integer> putAll(PolicyRack rack, int... keys) {
        List<Integer> gone = new ArrayList<>();
        for (int key : keys) {
            gone.add(rack.put(0, key, 10 * key));
        }
        return gone;
    }

    private static void getAll(PolicyRack rack, int... keys) {
        for (int key : keys) {
            rack.get(0, key);
        }
    }

    private static void useAll(PolicyRack rack, int... keys) {
        for (int key : keys) {
            rack.use(key);
        }
    }

    private static void dueGone(String text, List<Integer> gone, Integer... want) {
        CHECK.same("4 " + text, gone.toString(), List.of(want).toString());
    }

    private static void dueList(String text, PolicyRack rack, int list, Integer... want) {
        List<Integer> keys = new ArrayList<>();
        for (int i = 0; i < want.length + 1; i++) {
            keys.add(rack.list(0, list, i));
        }
        List<Integer> due = new ArrayList<>(List.of(want));
        due.add(NONE);
        CHECK.same(text + " list " + list, keys.toString(), due.toString());
    }

    private static void promise1NewObject() {
        PolicyRack rack = new PolicyRack();
        CHECK.due("1 NONE", () -> PolicyRack.NONE, -1);
        CHECK.due("1 shelves", () -> rack.count(0), 0);
        CHECK.due("1 uses", () -> rack.count(1), 0);
        CHECK.due("1 different keys", () -> rack.count(2), 0);
        CHECK.due("1 curve", () -> rack.curve(1), 0);
        CHECK.due("1 optimum", () -> rack.optimum(64), 0);
        CHECK.due("1 distance", () -> rack.distance(0), Check.ARGUMENT);
        CHECK.due("1 victim", () -> rack.victim(0), Check.ARGUMENT);
        CHECK.due("1 clear", rack::clear, 0);
    }

    private static void promise2Shelf() {
        PolicyRack rack = new PolicyRack();
        wrongShelves("2 with room", rack);
        CHECK.due("2 still none", () -> rack.count(0), 0);
        CHECK.due("2 FIRST", () -> rack.shelf(FIRST, 1, -7, 99), 0);
        CHECK.due("2 LATELY", () -> rack.shelf(LATELY, 64, 0, 0), 1);
        CHECK.due("2 OFTEN", () -> rack.shelf(OFTEN, 2, 65, -1), 2);
        CHECK.due("2 CLOCK", () -> rack.shelf(CLOCK, 64, 0, 0), 3);
        CHECK.due("2 QUEUES least", () -> rack.shelf(QUEUES, 1, 1, 1), 4);
        CHECK.due("2 QUEUES most", () -> rack.shelf(QUEUES, 64, 64, 64), 5);
        CHECK.due("2 LISTS", () -> rack.shelf(LISTS, 64, 0, 0), 6);
        CHECK.due("2 the eighth", () -> rack.shelf(LISTS, 1, 0, 0), 7);
        CHECK.due("2 the ninth", () -> rack.shelf(FIRST, 1, 0, 0), Check.STATE);
        wrongShelves("2 argument before state", rack);
        CHECK.due("2 eight", () -> rack.count(0), 8);
        for (int i = 0; i < 8; i++) {
            int shelf = i;
            CHECK.due("2 empty " + i, () -> rack.told(shelf, 2), 0);
            CHECK.due("2 no ghosts " + i, () -> rack.told(shelf, 3), 0);
        }
    }

    private static void wrongShelves(String text, PolicyRack rack) {
        int[][] wrong = {
            {-1, 1, 1, 1}, {6, 1, 1, 1}, {Integer.MIN_VALUE, 1, 1, 1}, {Integer.MAX_VALUE, 1, 1, 1},
            {0, 0, 1, 1}, {0, 65, 1, 1}, {5, -1, 1, 1}, {3, Integer.MAX_VALUE, 1, 1},
            {4, 3, 0, 1}, {4, 3, 4, 1}, {4, 3, -1, 1}, {4, 3, 1, 0}, {4, 3, 1, 65}, {4, 3, 1, -1},
            {4, 64, 65, 1}, {4, 0, 1, 1}, {4, 65, 1, 1}};
        for (int[] w : wrong) {
            CHECK.due(text + " shelf(" + w[0] + ", " + w[1] + ", " + w[2] + ", " + w[3] + ")",
                    () -> rack.shelf(w[0], w[1], w[2], w[3]), Check.ARGUMENT);
        }
    }

    private static void promise3Get() {
        for (int way = FIRST; way <= LISTS; way++) {
            PolicyRack rack = new PolicyRack();
            rack.shelf(way, 2, 1, 1);
            String text = "3 way " + way;
            CHECK.due(text + " of nothing", () -> rack.get(0, 0), Check.ELEMENT);
            rack.put(0, 0, Integer.MIN_VALUE);
            rack.put(0, 511, NONE);
            CHECK.due(text + " least value", () -> rack.get(0, 0), Integer.MIN_VALUE);
            CHECK.due(text + " value NONE", () -> rack.get(0, 511), NONE);
            rack.put(0, 511, Integer.MAX_VALUE);
            CHECK.due(text + " greatest value", () -> rack.get(0, 511), Integer.MAX_VALUE);
            wrongKeys(text, rack);
            CHECK.due(text + " hits", () -> rack.told(0, 4), 3);
            CHECK.due(text + " misses", () -> rack.told(0, 5), 1);
        }
        PolicyRack queues = rackWithQueues(1, 1, 1);
        putAll(queues, 1, 2);
        CHECK.due("3 a ghost is a miss", () -> queues.get(0, 1), Check.ELEMENT);
        CHECK.due("3 nothing else happens", () -> queues.has(0, 1), 1);
    }

    private static void wrongKeys(String text, PolicyRack rack) {
        int[][] wrong = {{-1, 0}, {1, 0}, {8, 0}, {Integer.MIN_VALUE, 0}, {Integer.MAX_VALUE, 0},
            {0, -1}, {0, 512}, {0, Integer.MIN_VALUE}, {0, Integer.MAX_VALUE}};
        for (int[] w : wrong) {
            String call = "(" + w[0] + ", " + w[1] + ")";
            CHECK.due(text + " get" + call, () -> rack.get(w[0], w[1]), Check.ARGUMENT);
            CHECK.due(text + " put" + call, () -> rack.put(w[0], w[1], 0), Check.ARGUMENT);
            CHECK.due(text + " drop" + call, () -> rack.drop(w[0], w[1]), Check.ARGUMENT);
            CHECK.due(text + " has" + call, () -> rack.has(w[0], w[1]), Check.ARGUMENT);
        }
    }

    private static void promise4PutFirst() {
        PolicyRack rack = rackWith(FIRST, 3);
        dueGone("FIRST", putAll(rack, 1, 2, 3), NONE, NONE, NONE);
        getAll(rack, 1);
        dueGone("FIRST held", putAll(rack, 1), NONE);
        dueGone("FIRST full", putAll(rack, 4, 5, 1), 1, 2, 3);
        dueList("4 FIRST", rack, 0, 4, 5, 1);
        PolicyRack one = rackWith(FIRST, 1);
        dueGone("FIRST of one", putAll(one, 0, 511, 511, 0), NONE, 0, NONE, 511);
    }

    private static void promise4PutLately() {
        PolicyRack rack = rackWith(LATELY, 3);
        putAll(rack, 1, 2, 3);
        getAll(rack, 1);
        rack.put(0, 2, 21);
        CHECK.due("4 LATELY replaced", () -> rack.get(0, 2), 21);
        dueGone("LATELY full", putAll(rack, 4, 5), 3, 1);
        dueList("4 LATELY", rack, 0, 2, 4, 5);
    }

    private static void promise4PutOften() {
        PolicyRack rack = rackWith(OFTEN, 3);
        putAll(rack, 1, 2, 3);
        getAll(rack, 3, 1, 2, 2);
        dueList("4 OFTEN", rack, 0, 3, 1, 2);
        dueGone("OFTEN least count, longest ago", putAll(rack, 4, 5), 3, 4);
        dueGone("OFTEN put uses", putAll(rack, 5, 5), NONE, NONE);
        dueList("4 OFTEN behind uses", rack, 0, 1, 2, 5);
        dueGone("OFTEN with equals", putAll(rack, 6), 1);
        rack.drop(0, 2);
        putAll(rack, 2);
        dueList("4 OFTEN counts anew", rack, 0, 6, 2, 5);
    }

    private static void promise4PutClock() {
        PolicyRack rack = rackWith(CLOCK, 3);
        putAll(rack, 1, 2, 3);
        CHECK.due("4 CLOCK hand at first", () -> rack.told(0, 7), 0);
        getAll(rack, 1, 2);
        dueGone("CLOCK passes marks", putAll(rack, 4), 3);
        CHECK.due("4 CLOCK hand is round", () -> rack.told(0, 7), 0);
        dueGone("CLOCK cleared marks", putAll(rack, 5), 1);
        rack.drop(0, 4);
        getAll(rack, 5);
        rack.drop(0, 5);
        CHECK.due("4 CLOCK hand stays", () -> rack.told(0, 7), 1);
        dueGone("CLOCK least free place", putAll(rack, 6), NONE);
        CHECK.due("4 CLOCK place 0", () -> rack.list(0, 0, 0), 6);
        dueGone("CLOCK next free place", putAll(rack, 7), NONE);
        CHECK.due("4 CLOCK hand still", () -> rack.told(0, 7), 1);
        getAll(rack, 2, 6, 7);
        dueGone("CLOCK all marked, then the hand's", putAll(rack, 8), 2);
        CHECK.due("4 CLOCK hand goes on", () -> rack.told(0, 7), 2);
        dueGone("CLOCK no mark left", putAll(rack, 9, 10, 11), 7, 6, 8);
        PolicyRack freed = rackWith(CLOCK, 2);
        putAll(freed, 1, 2);
        getAll(freed, 1);
        freed.drop(0, 1);
        dueGone("CLOCK a freed place has no mark", putAll(freed, 3, 4), NONE, 3);
        PolicyRack one = rackWith(CLOCK, 1);
        putAll(one, 1, 1);
        dueGone("CLOCK of one", putAll(one, 2), 1);
        CHECK.due("4 CLOCK of one, hand", () -> one.told(0, 7), 0);
    }

    private static void promise4PutQueues() {
        PolicyRack rack = rackWithQueues(3, 1, 2);
        putAll(rack, 1, 2, 3);
        getAll(rack, 1);
        dueGone("QUEUES IN has more than a", putAll(rack, 4, 5), 1, 2);
        dueGone("QUEUES ghost comes to MAIN", putAll(rack, 1), 3);
        dueList("4 QUEUES IN", rack, 0, 4, 5);
        dueList("4 QUEUES MAIN", rack, 1, 1);
        dueList("4 QUEUES ghosts", rack, 2, 2, 3);
        dueGone("QUEUES oldest ghost is saved", putAll(rack, 2), 4);
        dueList("4 QUEUES MAIN in order", rack, 1, 1, 2);
        dueList("4 QUEUES ghosts behind it", rack, 2, 3, 4);
        getAll(rack, 1);
        dueGone("QUEUES first of MAIN goes", putAll(rack, 6), 2);
        CHECK.due("4 QUEUES it is no ghost", () -> rack.has(0, 2), 0);
        dueGone("QUEUES IN again", putAll(rack, 7), 5);
        dueList("4 QUEUES first ghost forgotten", rack, 2, 4, 5);
        PolicyRack wide = rackWithQueues(2, 2, 1);
        dueGone("QUEUES MAIN has none", putAll(wide, 1, 2, 3, 2), NONE, NONE, 1, NONE);
        dueGone("QUEUES one ghost", putAll(wide, 4, 2), 2, 3);
        dueList("4 QUEUES one ghost", wide, 2, 3);
    }

    private static void promise4PutLists() {
        PolicyRack rack = rackWith(LISTS, 2);
        dueGone("LISTS ONCE has c: forgotten", putAll(rack, 1, 2, 3), NONE, NONE, 1);
        CHECK.due("4 LISTS no ghost of it", () -> rack.told(0, 3), 0);
        getAll(rack, 2);
        dueGone("LISTS ONCE has more than t", putAll(rack, 4), 3);
        dueList("4 LISTS ghosts of ONCE", rack, 2, 3);
        dueList("4 LISTS TWICE", rack, 1, 2);
        dueGone("LISTS first ghost of ONCE forgotten", putAll(rack, 5), 4);
        dueList("4 LISTS ghosts of ONCE anew", rack, 2, 4);
        dueGone("LISTS put uses", putAll(rack, 5), NONE);
        dueList("4 LISTS TWICE in order", rack, 1, 2, 5);
        dueGone("LISTS ONCE has none", putAll(rack, 6), 2);
        dueList("4 LISTS ghosts of TWICE", rack, 3, 2);
        getAll(rack, 6);
        dueGone("LISTS TWICE again", putAll(rack, 7), 5);
        dueList("4 LISTS of 2 c the first ghost of TWICE is forgotten", rack, 3, 5);
        dueList("4 LISTS ghosts of ONCE stay then", rack, 2, 4);
        CHECK.due("4 LISTS held", () -> rack.told(0, 2), 2);
    }

    private static void promise4PutListsTarget() {
        PolicyRack rack = rackWith(LISTS, 3);
        putAll(rack, 1, 2, 3);
        getAll(rack, 1, 2);
        dueGone("LISTS t 0", putAll(rack, 4), 3);
        dueGone("LISTS ghost of ONCE", putAll(rack, 3), 1);
        CHECK.due("4 LISTS t grows by 1", () -> rack.told(0, 7), 1);
        dueList("4 LISTS ONCE just t stays", rack, 0, 4);
        dueList("4 LISTS ghosts of TWICE", rack, 3, 1);
        dueGone("LISTS ghost of TWICE, ONCE more than t", putAll(rack, 1), 4);
        CHECK.due("4 LISTS t shrinks by 1", () -> rack.told(0, 7), 0);
        dueGone("LISTS ONCE has none", putAll(rack, 5, 6), 2, 5);
        dueGone("LISTS t by 1", putAll(rack, 4), 3);
        CHECK.due("4 LISTS t 1 again", () -> rack.told(0, 7), 1);
        dueGone("LISTS 2 by 1", putAll(rack, 5), 1);
        CHECK.due("4 LISTS t by a quotient, at most c", () -> rack.told(0, 7), 3);
        PolicyRack one = rackWith(LISTS, 1);
        dueGone("LISTS of one", putAll(one, 1, 2), NONE, 1);
        getAll(one, 2);
        dueGone("LISTS of one, TWICE", putAll(one, 3, 2, 3), 2, 3, 2);
        CHECK.due("4 LISTS of one, t at most c", () -> one.told(0, 7), 1);
    }

    private static void promise4PutListsJustTarget() {
        PolicyRack rack = rackWith(LISTS, 3);
        putAll(rack, 1, 2, 3);
        getAll(rack, 1, 2);
        putAll(rack, 4, 3);
        CHECK.due("7 LISTS just t in (3)", () -> rack.victim(0), 2);
        dueGone("LISTS just t in (3)", putAll(rack, 5), 2);
        dueGone("LISTS more than t in (3)", putAll(rack, 6), 4);
        dueGone("LISTS less than t in (1)", putAll(rack, 4), 3);
        CHECK.due("4 LISTS t by the quotient of ghosts", () -> rack.told(0, 7), 3);
        dueList("4 LISTS ghosts of TWICE in order", rack, 3, 1, 2, 3);
        dueGone("LISTS just t in (2)", putAll(rack, 1), 5);
        CHECK.due("4 LISTS t less 1", () -> rack.told(0, 7), 2);
        getAll(rack, 4);
        dueList("4 LISTS used is the latest of TWICE", rack, 1, 1, 4);
        dueList("4 LISTS ONCE is left alone", rack, 0, 6);
        PolicyRack none = rackWith(LISTS, 2);
        putAll(none, 1, 2);
        getAll(none, 1, 2);
        putAll(none, 3);
        getAll(none, 3);
        dueGone("LISTS just t in (2), but ONCE has none", putAll(none, 1), 2);
        CHECK.due("4 LISTS t at least 0", () -> none.told(0, 7), 0);
        PolicyRack one = rackWith(LISTS, 1);
        putAll(one, 1);
        getAll(one, 1);
        putAll(one, 2, 1, 2, 3);
        CHECK.due("7 LISTS t is c", () -> one.told(0, 7), 1);
        CHECK.due("7 LISTS ONCE after all", () -> one.victim(0), 3);
    }

    private static void promise4PutWrong() {
        PolicyRack rack = rackWith(FIRST, 1);
        wrongKeys("4", rack);
        CHECK.due("4 wrong calls change nothing", () -> rack.told(0, 2), 0);
        putAll(rack, 1, 1);
        CHECK.due("4 put is no hit", () -> rack.told(0, 4), 0);
        CHECK.due("4 put is no miss", () -> rack.told(0, 5), 0);
    }

    private static void promise5Drop() {
        for (int way = FIRST; way <= LISTS; way++) {
            PolicyRack rack = new PolicyRack();
            rack.shelf(way, 2, 1, 2);
            putAll(rack, 1, 2);
            String text = "5 way " + way;
            wrongKeys(text, rack);
            CHECK.due(text + " held", () -> rack.drop(0, 1), 2);
            CHECK.due(text + " no more", () -> rack.drop(0, 1), 0);
            CHECK.due(text + " never", () -> rack.drop(0, 9), 0);
            CHECK.due(text + " one left", () -> rack.told(0, 2), 1);
            CHECK.due(text + " room", () -> rack.put(0, 3, 0), NONE);
            CHECK.due(text + " full again", () -> rack.told(0, 2), 2);
            CHECK.due(text + " none went", () -> rack.told(0, 6), 0);
        }
        PolicyRack queues = rackWithQueues(2, 1, 2);
        putAll(queues, 1, 2, 3, 4);
        CHECK.due("5 a ghost", () -> queues.drop(0, 1), 1);
        CHECK.due("5 a ghost no more", () -> queues.drop(0, 1), 0);
        CHECK.due("5 ghosts", () -> queues.told(0, 3), 1);
        putAll(queues, 1);
        dueList("5 as if it had never come", queues, 0, 4, 1);
        CHECK.due("5 what went stays counted", () -> queues.told(0, 6), 3);
    }

    private static void promise5DropOfLists() {
        PolicyRack rack = rackWith(LISTS, 2);
        putAll(rack, 1, 2);
        getAll(rack, 1);
        putAll(rack, 3, 2);
        CHECK.due("5 LISTS target", () -> rack.told(0, 7), 1);
        CHECK.due("5 LISTS ghost of TWICE", () -> rack.drop(0, 1), 1);
        CHECK.due("5 LISTS of TWICE", () -> rack.drop(0, 2), 2);
        CHECK.due("5 LISTS target stays", () -> rack.told(0, 7), 1);
        dueGone("LISTS behind drops", putAll(rack, 1), NONE);
        dueList("5 LISTS came anew", rack, 0, 3, 1);
        PolicyRack full = rackWith(LISTS, 2);
        putAll(full, 1, 2);
        getAll(full, 1);
        putAll(full, 3);
        full.drop(0, 1);
        dueGone("LISTS ONCE and its ghosts are c, not full", putAll(full, 4), NONE);
        dueList("5 LISTS the ghost is forgotten all the same", full, 2);
    }

    private static void promise6Has() {
        PolicyRack rack = new PolicyRack();
        rack.shelf(LATELY, 2, 0, 0);
        putAll(rack, 0, 511);
        wrongKeys("6", rack);
        CHECK.due("6 held", () -> rack.has(0, 0), 2);
        CHECK.due("6 held too", () -> rack.has(0, 511), 2);
        CHECK.due("6 not", () -> rack.has(0, 1), 0);
        CHECK.due("6 not used by that", () -> rack.victim(0), 0);
        CHECK.due("6 no hit", () -> rack.told(0, 4), 0);
        CHECK.due("6 no miss", () -> rack.told(0, 5), 0);
        PolicyRack lists = rackWith(LISTS, 2);
        putAll(lists, 1, 2);
        getAll(lists, 1);
        putAll(lists, 3, 2);
        CHECK.due("6 ghost of TWICE", () -> lists.has(0, 1), 1);
        CHECK.due("6 in TWICE", () -> lists.has(0, 2), 2);
        CHECK.due("6 in ONCE", () -> lists.has(0, 3), 2);
        putAll(lists, 1);
        CHECK.due("6 ghost of ONCE", () -> lists.has(0, 3), 1);
    }

    private static void promise7Victim() {
        for (int way = FIRST; way <= LISTS; way++) {
            PolicyRack rack = new PolicyRack();
            rack.shelf(way, 3, 2, 2);
            String text = "7 way " + way;
            CHECK.due(text + " empty", () -> rack.victim(0), NONE);
            putAll(rack, 1, 2);
            CHECK.due(text + " not full", () -> rack.victim(0), NONE);
            putAll(rack, 3);
            int want = way == FIRST || way == QUEUES ? 1 : 2;
            getAll(rack, 1);
            CHECK.due(text + " full", () -> rack.victim(0), want);
            CHECK.due(text + " changes nothing", () -> rack.victim(0), want);
            CHECK.due(text + " is what goes", () -> rack.put(0, 4, 0), want);
            CHECK.due(text + " no shelf", () -> rack.victim(1), Check.ARGUMENT);
            CHECK.due(text + " no shelf below", () -> rack.victim(-1), Check.ARGUMENT);
        }
        PolicyRack clock = rackWith(CLOCK, 2);
        putAll(clock, 1, 2);
        getAll(clock, 1, 2);
        CHECK.due("7 CLOCK all marked", () -> clock.victim(0), 1);
        CHECK.due("7 CLOCK hand stays", () -> clock.told(0, 7), 0);
        dueGone("CLOCK marks stayed", putAll(clock, 3), 1);
        PolicyRack queues = rackWithQueues(2, 1, 2);
        putAll(queues, 1, 2, 3, 1);
        CHECK.due("7 QUEUES of MAIN", () -> queues.victim(0), 1);
        PolicyRack lists = rackWith(LISTS, 1);
        putAll(lists, 1);
        getAll(lists, 1);
        CHECK.due("7 LISTS of TWICE", () -> lists.victim(0), 1);
    }

    private static void promise8List() {
        int[] lists = {1, 1, 1, 1, 3, 4};
        for (int way = FIRST; way <= LISTS; way++) {
            PolicyRack rack = new PolicyRack();
            rack.shelf(way, 2, 1, 1);
            for (int list = 0; list < lists[way]; list++) {
                dueList("8 empty, way " + way, rack, list);
            }
            int behind = lists[way];
            String text = "8 way " + way;
            CHECK.due(text + " no such list", () -> rack.list(0, behind, 0), Check.ARGUMENT);
            CHECK.due(text + " list -1", () -> rack.list(0, -1, 0), Check.ARGUMENT);
            CHECK.due(text + " far list", () -> rack.list(0, Integer.MAX_VALUE, 0), Check.ARGUMENT);
            CHECK.due(text + " no such shelf", () -> rack.list(1, 0, 0), Check.ARGUMENT);
            CHECK.due(text + " shelf -1", () -> rack.list(-1, 0, 0), Check.ARGUMENT);
            putAll(rack, 7, 8);
            dueList(text, rack, 0, 7, 8);
            CHECK.due(text + " key -1", () -> rack.list(0, 0, -1), NONE);
            CHECK.due(text + " far below", () -> rack.list(0, 0, Integer.MIN_VALUE), NONE);
            CHECK.due(text + " far behind", () -> rack.list(0, 0, Integer.MAX_VALUE), NONE);
        }
        PolicyRack clock = rackWith(CLOCK, 3);
        putAll(clock, 1, 2, 3);
        clock.drop(0, 2);
        CHECK.due("8 CLOCK place 0", () -> clock.list(0, 0, 0), 1);
        CHECK.due("8 CLOCK free place", () -> clock.list(0, 0, 1), NONE);
        CHECK.due("8 CLOCK place 2", () -> clock.list(0, 0, 2), 3);
    }

    private static void promise9Told() {
        PolicyRack rack = new PolicyRack();
        rack.shelf(QUEUES, 2, 1, 3);
        rack.shelf(LISTS, 64, 0, 0);
        putAll(rack, 1, 2, 3, 4, 1);
        getAll(rack, 1, 4, 4);
        CHECK.due("9 a miss", () -> rack.get(0, 9), Check.ELEMENT);
        rack.drop(0, 1);
        int[] want = {QUEUES, 2, 1, 2, 3, 1, 3, 0};
        for (int i = 0; i < want.length; i++) {
            int what = i;
            CHECK.due("9 told " + i, () -> rack.told(0, what), want[i]);
        }
        CHECK.due("9 way of another", () -> rack.told(1, 0), LISTS);
        CHECK.due("9 capacity of another", () -> rack.told(1, 1), 64);
        for (int what : new int[] {-1, 8, Integer.MIN_VALUE, Integer.MAX_VALUE}) {
            CHECK.due("9 no such number " + what, () -> rack.told(0, what), Check.ARGUMENT);
        }
        CHECK.due("9 no such shelf", () -> rack.told(2, 0), Check.ARGUMENT);
        CHECK.due("9 shelf -1", () -> rack.told(-1, 0), Check.ARGUMENT);
    }

    private static void promise10Use() {
        PolicyRack rack = new PolicyRack();
        CHECK.due("10 no shelves", () -> rack.use(3), 0);
        for (int i = 0; i < 8; i++) {
            rack.shelf(i % 6, 2, 1, 1);
        }
        CHECK.due("10 all miss", () -> rack.use(3), 0);
        CHECK.due("10 all hit", () -> rack.use(3), 255);
        CHECK.due("10 value is the number of uses", () -> rack.get(7, 3), 2);
        rack.drop(0, 3);
        rack.drop(6, 3);
        CHECK.due("10 some hit", () -> rack.use(3), 255 - 1 - 64);
        CHECK.due("10 value anew", () -> rack.get(0, 3), 4);
        CHECK.due("10 a hit keeps the value", () -> rack.get(1, 3), 2);
        CHECK.due("10 hits of uses", () -> rack.told(1, 4), 3);
        CHECK.due("10 misses of uses", () -> rack.told(6, 5), 2);
        CHECK.due("10 key -1", () -> rack.use(-1), Check.ARGUMENT);
        CHECK.due("10 key 512", () -> rack.use(512), Check.ARGUMENT);
        CHECK.due("10 nothing got used", () -> rack.count(1), 4);
        for (int i = 4; i < 300; i++) {
            rack.use(i + 100);
        }
        CHECK.due("10 full", () -> rack.use(3), Check.STATE);
        CHECK.due("10 argument before state", () -> rack.use(512), Check.ARGUMENT);
        CHECK.due("10 full changes nothing", () -> rack.count(1), 300);
        CHECK.due("10 no miss when full", () -> rack.told(1, 5), 297);
        CHECK.due("10 last value", () -> rack.get(0, 399), 300);
    }

    private static void promise11Clear() {
        PolicyRack rack = rackWith(LATELY, 2);
        useAll(rack, 5, 6, 5);
        CHECK.due("11 had", rack::clear, 3);
        CHECK.due("11 empty", rack::clear, 0);
        CHECK.due("11 no use", () -> rack.distance(0), Check.ARGUMENT);
        CHECK.due("11 no keys", () -> rack.count(2), 0);
        CHECK.due("11 no curve", () -> rack.curve(1), 0);
        CHECK.due("11 no optimum", () -> rack.optimum(1), 0);
        CHECK.due("11 shelves stay", () -> rack.told(0, 2), 2);
        CHECK.due("11 hits stay", () -> rack.told(0, 4), 1);
        CHECK.due("11 held still", () -> rack.use(5), 1);
        CHECK.due("11 first use of it", () -> rack.distance(0), NONE);
        CHECK.due("11 one key", () -> rack.count(2), 1);
        for (int i = 1; i < 300; i++) {
            rack.use(5);
        }
        CHECK.due("11 a full one", rack::clear, 300);
        CHECK.due("11 room again", () -> rack.use(5), 1);
    }

    private static void promise12Distance() {
        PolicyRack rack = new PolicyRack();
        useAll(rack, 0, 511, 511, 0, 3, 3, 511, 3, 0);
        int[] want = {NONE, NONE, 0, 1, NONE, 0, 2, 1, 2};
        for (int i = 0; i < want.length; i++) {
            int use = i;
            CHECK.due("12 distance " + i, () -> rack.distance(use), want[i]);
        }
        for (int use : new int[] {-1, 9, 300, Integer.MIN_VALUE, Integer.MAX_VALUE}) {
            CHECK.due("12 no use " + use, () -> rack.distance(use), Check.ARGUMENT);
        }
        PolicyRack anew = new PolicyRack();
        useAll(anew, 1, 2, 3, 4);
        anew.clear();
        useAll(anew, 1, 1);
        CHECK.due("12 what was cleared is not between", () -> anew.distance(1), 0);
        PolicyRack wide = new PolicyRack();
        for (int i = 0; i < 299; i++) {
            wide.use(i);
        }
        wide.use(0);
        CHECK.due("12 greatest distance", () -> wide.distance(299), 298);
    }

    private static void promise13Curve() {
        PolicyRack rack = new PolicyRack();
        useAll(rack, 1, 2, 3, 1, 2, 2, 3, 1);
        int[] want = {NONE, 7, 7, 3, 3};
        for (int i = 1; i < want.length; i++) {
            int capacity = i;
            CHECK.due("13 curve " + i, () -> rack.curve(capacity), want[i]);
        }
        CHECK.due("13 curve 64", () -> rack.curve(64), 3);
        PolicyRack edge = new PolicyRack();
        for (int i = 0; i < 130; i++) {
            edge.use(i % 65);
        }
        CHECK.due("13 distances of 64 are not below 64", () -> edge.curve(64), 130);
        for (int capacity : new int[] {0, 65, -1, Integer.MIN_VALUE, Integer.MAX_VALUE}) {
            CHECK.due("13 capacity " + capacity, () -> rack.curve(capacity), Check.ARGUMENT);
        }
    }

    private static void promise14Optimum() {
        PolicyRack rack = new PolicyRack();
        useAll(rack, 1, 2, 3, 4, 1, 2, 5, 1, 2, 3, 4, 5);
        int[] want = {NONE, 12, 9, 7, 6, 5};
        for (int i = 1; i < want.length; i++) {
            int capacity = i;
            CHECK.due("14 optimum " + i, () -> rack.optimum(capacity), want[i]);
        }
        CHECK.due("14 optimum 64", () -> rack.optimum(64), 5);
        CHECK.due("14 asked again", () -> rack.optimum(3), 7);
        PolicyRack must = new PolicyRack();
        useAll(must, 1, 2, 1, 3, 1);
        CHECK.due("14 the used key is held then", () -> must.optimum(1), 5);
        PolicyRack edge = new PolicyRack();
        for (int i = 0; i < 130; i++) {
            edge.use(i % 65);
        }
        CHECK.due("14 one too many", () -> edge.optimum(64), 66);
        for (int capacity : new int[] {0, 65, -1, Integer.MIN_VALUE, Integer.MAX_VALUE}) {
            CHECK.due("14 capacity " + capacity, () -> rack.optimum(capacity), Check.ARGUMENT);
        }
    }

    private static void promise15Count() {
        PolicyRack rack = new PolicyRack();
        rack.shelf(FIRST, 1, 0, 0);
        rack.shelf(CLOCK, 1, 0, 0);
        useAll(rack, 4, 5, 4, 4, 511);
        CHECK.due("15 shelves", () -> rack.count(0), 2);
        CHECK.due("15 uses", () -> rack.count(1), 5);
        CHECK.due("15 different keys", () -> rack.count(2), 3);
        for (int what : new int[] {-1, 3, Integer.MIN_VALUE, Integer.MAX_VALUE}) {
            CHECK.due("15 no such number " + what, () -> rack.count(what), Check.ARGUMENT);
        }
    }
}
