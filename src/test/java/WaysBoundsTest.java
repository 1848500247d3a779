/**
 * Each sentence of 'Terms' that names a boundary of a way, of GET, PUT or DROP, with answers
 * from the document's words. The long runs of LISTS come from a search, with a sketch of the
 * document apart from the program, for the shortest run to that boundary; a comment tells the
 * lists behind a call: ONCE / TWICE / ghosts of ONCE / ghosts of TWICE, and the target.
 */
public final class WaysBoundsTest {
    private static final int NONE = PolicyRack.NONE;
    private static final int FIRST = 0;
    private static final int LATELY = 1;
    private static final int OFTEN = 2;
    private static final int CLOCK = 3;
    private static final int QUEUES = 4;
    private static final int LISTS = 5;

    private static final Check CHECK = new Check("WaysBoundsTest");

    public static void main(String[] args) {
        holdsAtMostItsCapacity();
        ghosts();
        getOfTerms();
        putOfTerms();
        dropOfTerms();
        dropAndHandAndTarget();
        first();
        lately();
        oftenCount();
        oftenGoes();
        clockPlaces();
        clockComing();
        clockMarks();
        clockWrapAround();
        queuesRows();
        queuesUsing();
        queuesComing();
        queuesFull();
        queuesGhosts();
        listsUsing();
        listsTargetBounds();
        listsTargetUp();
        listsTargetDown();
        listsGhostComes();
        listsOnceAndGhostsAreC();
        listsOnceAndGhostsAreLess();
        makingRoomIfFull();
        makingRoomMoreThanTarget();
        makingRoomJustTarget();
        makingRoomFromTheOther();
        makingRoomBehindTheGhost();
        CHECK.end();
    }

    private static Sentence sentence(int promise, String words) {
        return sentence(promise, words, "");
    }

    private static Sentence sentence(int promise, String words, String tried) {
        return new Sentence(CHECK, promise, words, tried);
    }

    /** first .. last, both of them among the keys. */
    private static int[] keys(int first, int last) {
        int[] keys = new int[last - first + 1];
        for (int i = 0; i < keys.length; i++) {
            keys[i] = first + i;
        }
        return keys;
    }

    // ---- what all ways have in common

    private static void holdsAtMostItsCapacity() {
        for (int way = FIRST; way <= LISTS; way++) {
            for (int capacity : new int[] {1, 2, 64}) {
                Sentence s = sentence(4, "there are at most as many as its capacity");
                s.shelf(way, capacity).told(2, 0).victim(NONE);
                for (int key = 1; key <= capacity; key++) {
                    s.victim(NONE).puts(key).told(2, key);
                }
                s.told(6, 0).victim(1).goes(capacity + 1, 1).told(2, capacity).told(6, 1);
                s.has(1, way == QUEUES ? 1 : 0).has(2, 2);
            }
        }
    }

    private static void ghosts() {
        sentence(3, "GHOSTS are keys that a shelf remembers without a value")
                .queues(1, 1, 1).puts(1).goes(2, 1)
                .has(1, 1).told(2, 1).told(3, 1)
                .due("get(0, 1)", Check.ELEMENT)
                .due("put(0, 1, 77)", 2).due("get(0, 1)", 77);
        // - / 1 / - / -, then 2 / - / - / 1
        sentence(3, "GHOSTS are keys that a shelf remembers without a value")
                .shelf(LISTS, 1).putsAndGets(1).goes(2, 1)
                .has(1, 1).told(2, 1).told(3, 1)
                .due("get(0, 1)", Check.ELEMENT)
                .due("put(0, 1, 77)", 2).due("get(0, 1)", 77);
    }

    private static void getOfTerms() {
        for (int way = FIRST; way <= LISTS; way++) {
            sentence(3, "GET of a key that it holds is a HIT")
                    .shelf(way, 2).puts(0, 511).gets(0, 511, 0).told(4, 3).told(5, 0);
            sentence(3, "otherwise a MISS, and nothing else happens")
                    .shelf(way, 2).asideButAMiss("get(0, 1)").told(4, 0).undisturbed();
            Sentence missed = sentence(3, "otherwise a MISS, and nothing else happens");
            missed.shelf(way, 2).puts(1, 2).gets(1).puts(2).goes(3, 1);
            missed.asideButAMiss("get(0, 4)").asideButAMiss("get(0, 0)")
                    .asideButAMiss("get(0, 511)").told(4, 1).undisturbed();
        }
        sentence(3, "otherwise a MISS, and nothing else happens")
                .queues(2, 1, 2).puts(1, 2).goes(3, 1)
                .asideButAMiss("get(0, 1)").has(1, 1).undisturbed();
    }

    private static void putOfTerms() {
        for (int way = FIRST; way <= LISTS; way++) {
            sentence(4, "PUT of a key that it holds: its value is replaced")
                    .shelf(way, 1).puts(5).due("put(0, 5, -7)", NONE).due("get(0, 5)", -7)
                    .due("put(0, 5, 2147483647)", NONE).due("get(0, 5)", Integer.MAX_VALUE)
                    .told(2, 1).told(6, 0).told(3, 0);
            sentence(9, "4 hits, 5 misses (of GET, those of USES too)")
                    .shelf(way, 1).puts(5, 5).goes(6, 5).told(4, 0).told(5, 0);
            sentence(4, "of another one: it COMES with its value")
                    .shelf(way, 1).puts(5).due("put(0, 6, 66)", 5).due("get(0, 6)", 66)
                    .due("get(0, 5)", Check.ELEMENT);
        }
        sentence(4, "and it is USED", "LATELY").shelf(LATELY, 2).puts(1, 2, 1).goes(3, 2);
        sentence(4, "and it is USED", "OFTEN").shelf(OFTEN, 2).puts(1, 2, 1).goes(3, 2);
        sentence(4, "and it is USED", "CLOCK").shelf(CLOCK, 2).puts(1, 2, 1).goes(3, 2);
        sentence(4, "and it is USED", "QUEUES").queues(3, 1, 3)
                .puts(1, 2, 3).goes(4, 1).goes(1, 2).goes(2, 3).list(1, 1, 2).puts(1).list(1, 2, 1);
        sentence(4, "and it is USED", "LISTS").shelf(LISTS, 2)
                .puts(1, 2, 1).list(0, 2).list(1, 1);
    }

    private static void dropOfTerms() {
        for (int way = FIRST; way <= LISTS; way++) {
            sentence(5, "DROP: a key that it holds or remembers is not there any more")
                    .shelf(way, 2).puts(1, 2).drops(1)
                    .has(1, 0).due("get(0, 1)", Check.ELEMENT).due("drop(0, 1)", 0)
                    .told(2, 1).told(3, 0).told(6, 0).victim(NONE).puts(3).told(2, 2);
            sentence(5, "2 if it was held, 1 if it was a ghost, else 0")
                    .shelf(way, 2).aside("drop(0, 1)", 0).puts(1, 2)
                    .aside("drop(0, 0)", 0).aside("drop(0, 511)", 0).undisturbed();
            sentence(5, "as if it had never come")
                    .shelf(way, 2).puts(1, 2).drops(1).puts(1)
                    .victim(way == CLOCK ? 1 : 2);
        }
        sentence(5, "as if it had never come", "the count of OFTEN")
                .shelf(OFTEN, 2).putsAndGets(1).gets(1, 1).putsAndGets(2).drops(1).puts(1).goes(3, 1);
        sentence(5, "as if it had never come", "a key of QUEUES leaves no ghost")
                .queues(2, 1, 2).puts(1, 2).drops(1).told(3, 0).puts(1).list(0, 2, 1).list(1);
        sentence(5, "as if it had never come", "a ghost of QUEUES")
                .queues(2, 1, 2).puts(1, 2).goes(3, 1).due("drop(0, 1)", 1).due("drop(0, 1)", 0)
                .has(1, 0).told(3, 0).told(2, 2).goes(1, 2).list(0, 3, 1).list(1).list(2, 2);
        // 3 / 1 / 2 / -, then 4 / 1 / 3 / - without 2
        sentence(5, "as if it had never come", "a ghost of ONCE")
                .shelf(LISTS, 2).putsAndGets(1).puts(2).goes(3, 2)
                .due("drop(0, 2)", 1).has(2, 0).told(3, 0).told(2, 2)
                .goes(2, 3).told(7, 0).list(0, 2).list(1, 1).list(2, 3).list(3);
        // - / 1 2 / - / -, then 3 / 2 / - / 1
        sentence(5, "as if it had never come", "a ghost of TWICE")
                .shelf(LISTS, 2).putsAndGets(1, 2).goes(3, 1)
                .due("drop(0, 1)", 1).has(1, 0).told(3, 0)
                .goes(1, 3).list(0, 1).list(1, 2).list(2, 3).list(3);
        sentence(5, "as if it had never come", "a key of TWICE")
                .shelf(LISTS, 2).putsAndGets(1, 2).drops(1).list(1, 2).puts(1).list(0, 1).list(1, 2);
    }

    private static void dropAndHandAndTarget() {
        sentence(5, "(of a CLOCK its place is free, the hand stays; a target stays)")
                .shelf(CLOCK, 3).puts(1, 2, 3).goes(4, 1).told(7, 1)
                .drops(2).told(7, 1).list(0, 4).due("list(0, 0, 2)", 3)
                .drops(4, 3).told(7, 1).list(0).puts(5, 6).told(7, 1)
                .due("list(0, 0, 0)", 5).due("list(0, 0, 1)", 6).victim(NONE)
                .puts(7).victim(6).goes(8, 6).told(7, 2);
        sentence(5, "of a CLOCK its place is free", "without the mark that it had")
                .shelf(CLOCK, 2).puts(1, 2).gets(1).drops(1).puts(3).victim(3).goes(4, 3);
        // 3 / 2 / - / 1, target 1
        sentence(5, "(of a CLOCK its place is free, the hand stays; a target stays)")
                .shelf(LISTS, 2).putsAndGets(1).puts(2).goes(3, 2).goes(2, 1).told(7, 1)
                .drops(3).told(7, 1).drops(2).told(7, 1).due("drop(0, 1)", 1).told(7, 1)
                .told(2, 0).told(3, 0);
    }

    // ---- FIRST, LATELY, OFTEN

    private static void first() {
        sentence(4, "FIRST: if it is full, the one that came first goes")
                .shelf(FIRST, 3).puts(1, 2).victim(NONE).puts(3).victim(1)
                .goes(4, 1).goes(5, 2).goes(1, 3).goes(6, 4).list(0, 5, 1, 6);
        sentence(4, "FIRST: if it is full, the one that came first goes")
                .shelf(FIRST, 1).puts(0).goes(511, 0).goes(0, 511);
        sentence(4, "if it is full, the one that came first goes", "it is not full behind a DROP")
                .shelf(FIRST, 2).puts(1, 2).drops(2).puts(3).goes(4, 1).list(0, 3, 4);
        sentence(4, "Using changes nothing.")
                .shelf(FIRST, 2).puts(1, 2).aside("put(0, 1, 10)", NONE)
                .aside("put(0, 2, 20)", NONE).undisturbed();
        sentence(4, "Using changes nothing.")
                .shelf(FIRST, 2).puts(1, 2).gets(1).uses(1, 1).victim(1).list(0, 1, 2).goes(3, 1);
    }

    private static void lately() {
        sentence(4, "LATELY: if it is full, the one goes that was used (or came) longest ago")
                .shelf(LATELY, 3).puts(1, 2).gets(1).victim(NONE).puts(3).list(0, 2, 1, 3)
                .gets(2).list(0, 1, 3, 2).puts(1).list(0, 3, 2, 1).uses(1, 3).list(0, 2, 1, 3)
                .gets(3).list(0, 2, 1, 3).victim(2).goes(4, 2).goes(5, 1).list(0, 3, 4, 5);
        sentence(4, "LATELY: if it is full, the one goes that was used (or came) longest ago")
                .shelf(LATELY, 1).puts(1).gets(1).goes(2, 1).goes(1, 2);
        sentence(4, "if it is full, the one goes that was used (or came) longest ago",
                "LATELY is not full behind a DROP")
                .shelf(LATELY, 2).puts(1, 2).gets(1).drops(1).puts(3).list(0, 2, 3).goes(4, 2);
    }

    private static void oftenCount() {
        sentence(4, "a key has a COUNT, 1 when it comes")
                .shelf(OFTEN, 2).putsAndGets(1).puts(2).goes(3, 2).goes(4, 3);
        sentence(4, "a key has a COUNT, 1 when it comes", "each time")
                .shelf(OFTEN, 2).puts(1).gets(1, 1, 1).puts(2).gets(2, 2, 2, 2)
                .goes(3, 1).goes(1, 3).goes(4, 1);
        sentence(4, "one more by each use", "GET, PUT, USE")
                .shelf(OFTEN, 4).puts(1, 2, 3, 4).gets(1, 1, 1, 1).puts(2, 2, 2).uses(1, 3, 3)
                .list(0, 4, 3, 2, 1);
        sentence(4, "one more by each use", "not by a look or a miss")
                .shelf(OFTEN, 2).puts(1, 2).has(1, 2).has(1, 2).told(2, 2).list(0, 1, 2)
                .due("get(0, 3)", Check.ELEMENT).goes(3, 1);
    }

    private static void oftenGoes() {
        sentence(4, "if it is full, one with the least count goes")
                .shelf(OFTEN, 2).puts(1).gets(1, 1).victim(NONE).puts(2).gets(2).victim(2)
                .goes(3, 2).list(0, 3, 1);
        sentence(4, "if it is full, one with the least count goes")
                .shelf(OFTEN, 1).puts(1).gets(1, 1, 1).goes(2, 1).goes(3, 2);
        sentence(4, "of several the one that was used (or came) longest ago")
                .shelf(OFTEN, 3).puts(1, 2, 3).list(0, 1, 2, 3)
                .gets(2).list(0, 1, 3, 2).gets(1).list(0, 3, 2, 1).gets(3).list(0, 2, 1, 3)
                .goes(4, 2).goes(5, 4).list(0, 5, 1, 3);
        sentence(4, "of several the one that was used (or came) longest ago")
                .shelf(OFTEN, 3).putsAndGets(1).puts(2, 3).goes(4, 2).goes(5, 3).list(0, 4, 5, 1);
    }

    // ---- CLOCK

    private static void clockPlaces() {
        sentence(8, "CLOCK: places 0 .. capacity - 1, each free or with a key and a MARK")
                .shelf(CLOCK, 64).list(0).due("list(0, 0, 63)", NONE).puts(keys(100, 162))
                .due("list(0, 0, 62)", 162).due("list(0, 0, 63)", NONE).victim(NONE)
                .puts(163).due("list(0, 0, 63)", 163).due("list(0, 0, 64)", NONE)
                .due("list(0, 0, 0)", 100).due("list(0, 0, -1)", NONE).victim(100);
        sentence(9, "a HAND, at first 0")
                .shelf(CLOCK, 2).told(7, 0).puts(1).told(7, 0).puts(2).told(7, 0)
                .gets(1).told(7, 0).goes(3, 2).told(7, 0);
    }

    private static void clockComing() {
        sentence(4, "A key that comes takes the least free place")
                .shelf(CLOCK, 3).puts(1, 2, 3).drops(3, 1).puts(4)
                .list(0, 4, 2).puts(5).list(0, 4, 2, 5);
        sentence(4, "A key that comes takes the least free place", "not the one at the hand")
                .shelf(CLOCK, 3).puts(1, 2, 3).goes(4, 1).goes(5, 2).told(7, 2).drops(3, 4)
                .puts(6).list(0, 6, 5).told(7, 2).puts(7).list(0, 6, 5, 7).told(7, 2);
        sentence(4, "A key that comes takes the least free place, without a mark")
                .shelf(CLOCK, 2).puts(1, 2).gets(2).victim(1).goes(3, 1).list(0, 3, 2);
        sentence(4, "the key there goes, the new one takes its place, without a mark, and the hand goes on")
                .shelf(CLOCK, 3).puts(1, 2, 3).gets(1).goes(4, 2).list(0, 1, 4, 3).told(7, 2)
                .goes(5, 3).told(7, 0).goes(6, 1).told(7, 1).goes(7, 4).told(7, 2);
    }

    private static void clockMarks() {
        sentence(4, "Using sets the mark.", "GET").shelf(CLOCK, 2).puts(1, 2).gets(1).goes(3, 2);
        sentence(4, "Using sets the mark.", "PUT").shelf(CLOCK, 2).puts(1, 2, 1).goes(3, 2);
        sentence(4, "Using sets the mark.", "USE").shelf(CLOCK, 2).puts(1, 2).uses(1, 1).goes(3, 2);
        sentence(4, "Using sets the mark.", "once set, it stays one mark")
                .shelf(CLOCK, 2).puts(1, 2).gets(1, 1, 1).goes(3, 2).goes(4, 1);
        sentence(4, "as long as the place at the hand has a mark, that is cleared")
                .shelf(CLOCK, 3).puts(1, 2, 3).gets(1, 2).goes(4, 3).told(7, 0)
                .victim(1).goes(5, 1).victim(2).goes(6, 2);
        sentence(4, "as long as the place at the hand has a mark",
                "marks that the hand does not pass stay")
                .shelf(CLOCK, 3).puts(1, 2, 3).gets(2, 3).goes(4, 1).told(7, 1)
                .goes(5, 4).told(7, 1).list(0, 5, 2, 3).goes(6, 2);
    }

    private static void clockWrapAround() {
        sentence(4, "the hand goes on to the next place (behind the last one the first)")
                .shelf(CLOCK, 3).puts(1, 2, 3).goes(4, 1).goes(5, 2).told(7, 2).gets(3)
                .victim(4).goes(6, 4).list(0, 6, 5, 3).told(7, 1);
        sentence(4, "without a mark, and the hand goes on", "from the last place")
                .shelf(CLOCK, 2).puts(1, 2).goes(3, 1).told(7, 1).goes(4, 2).told(7, 0).goes(5, 3);
        sentence(4, "as long as the place at the hand has a mark", "all have one: a whole turn")
                .shelf(CLOCK, 3).puts(1, 2, 3).goes(4, 1).gets(4, 2, 3).victim(2).told(7, 1)
                .goes(5, 2).list(0, 4, 5, 3).told(7, 2).goes(6, 3).goes(7, 4).told(7, 1);
        sentence(4, "behind the last one the first", "of one place")
                .shelf(CLOCK, 1).puts(1).gets(1).victim(1).goes(2, 1).told(7, 0)
                .goes(3, 2).told(7, 0).list(0, 3);
        Sentence wide = sentence(4, "behind the last one the first", "of 64 places");
        wide.shelf(CLOCK, 64).puts(keys(0, 63)).gets(keys(0, 63)).victim(0).goes(64, 0).told(7, 1);
        for (int key = 65; key < 127; key++) {
            wide.goes(key, key - 64);
        }
        wide.told(7, 63).gets(63).victim(64).goes(127, 64).told(7, 1);
        sentence(4, "behind the last one the first", "a turn from place 1 to place 0")
                .shelf(CLOCK, 64).puts(keys(0, 63)).gets(keys(1, 63)).goes(64, 0).told(7, 1)
                .victim(64).goes(65, 64).told(7, 1).goes(66, 1);
    }

    // ---- QUEUES

    private static void queuesRows() {
        sentence(8, "IN, a row of those that came once")
                .queues(3, 3, 1).list(0).list(1).list(2).puts(1).list(0, 1).puts(2, 3)
                .list(0, 1, 2, 3).list(1).list(2);
        sentence(8, "ghosts, at most b", "1")
                .queues(2, 1, 1).puts(1, 2).told(3, 0).goes(3, 1).told(3, 1).list(2, 1)
                .goes(4, 2).told(3, 1).list(2, 2).has(1, 0);
        Sentence wide = sentence(8, "ghosts, at most b", "64");
        wide.queues(1, 1, 64).puts(0);
        for (int key = 1; key <= 64; key++) {
            wide.goes(key, key - 1).told(3, key);
        }
        wide.has(0, 1).due("list(0, 2, 0)", 0).due("list(0, 2, 63)", 63).due("list(0, 2, 64)", NONE);
        wide.goes(65, 64).told(3, 64).has(0, 0).has(1, 1).has(64, 1)
                .due("list(0, 2, 0)", 1).due("list(0, 2, 63)", 64).due("list(0, 2, 64)", NONE);
    }

    private static void queuesUsing() {
        sentence(4, "Using a key of MAIN makes it the latest one there, of IN nothing")
                .queues(4, 1, 4).puts(1, 2, 3, 4).goes(5, 1).goes(1, 2).goes(2, 3)
                .list(0, 4, 5).list(1, 1, 2).list(2, 3)
                .gets(1).list(1, 2, 1).puts(2).list(1, 1, 2).uses(1, 1).list(1, 2, 1)
                .gets(1).list(1, 2, 1)
                .gets(4).puts(4).uses(1, 4).list(0, 4, 5).list(1, 2, 1).list(2, 3);
        sentence(4, "Using a key of MAIN makes it the latest one there, of IN nothing")
                .queues(2, 1, 1).puts(1, 2).aside("put(0, 1, 10)", NONE).undisturbed();
    }

    private static void queuesComing() {
        sentence(4, "if it is a ghost, it is one no more, and becomes the latest of MAIN")
                .queues(3, 1, 3).puts(1, 2, 3).goes(4, 1).goes(1, 2).has(1, 2)
                .list(0, 3, 4).list(1, 1).list(2, 2)
                .goes(2, 3).list(0, 4).list(1, 1, 2).list(2, 3);
        sentence(4, "otherwise the latest of IN")
                .queues(2, 1, 1).puts(1, 2).list(0, 1, 2).goes(3, 1).list(0, 2, 3)
                .goes(4, 2).list(0, 3, 4).goes(1, 3).list(0, 4, 1).list(1);
        sentence(4, "if the shelf is full", "if not, a ghost comes and none goes")
                .queues(2, 1, 2).puts(1, 2).goes(3, 1).drops(2).victim(NONE)
                .puts(1).list(0, 3).list(1, 1).list(2).told(2, 2);
        sentence(4, "if the shelf is full", "if not, a new key comes and none goes")
                .queues(2, 1, 2).puts(1, 2).goes(3, 1).drops(3)
                .puts(4).list(0, 2, 4).list(1).list(2, 1);
        sentence(4, "before it does so (and behind it is a ghost no more)")
                .queues(3, 1, 2).puts(1, 2, 3).goes(4, 1).goes(5, 2).list(2, 1, 2)
                .goes(2, 3).list(0, 4, 5).list(1, 2).list(2, 1, 3);
        sentence(4, "before it does so (and behind it is a ghost no more)")
                .queues(1, 1, 1).puts(1).goes(2, 1).goes(1, 2).list(0).list(1, 1).list(2, 2);
        sentence(4, "but before it does so", "it does not go itself")
                .queues(1, 1, 1).puts(1).goes(2, 1).list(0, 2).goes(3, 2).list(0, 3);
    }

    private static void queuesFull() {
        sentence(4, "if IN has more than a keys, or MAIN has none, the first of IN goes",
                "a + 1 keys")
                .queues(3, 1, 3).puts(1, 2, 3).goes(4, 1).goes(1, 2)
                .list(0, 3, 4).list(1, 1).victim(3).goes(5, 3).list(0, 4, 5).list(1, 1);
        sentence(4, "otherwise the first of MAIN goes", "IN has just a keys")
                .queues(3, 2, 3).puts(1, 2, 3).goes(4, 1).goes(1, 2)
                .list(0, 3, 4).list(1, 1).victim(1).goes(5, 1).list(0, 3, 4, 5).list(1);
        sentence(4, "otherwise the first of MAIN goes", "and is no ghost")
                .queues(2, 1, 2).puts(1, 2).goes(3, 1).goes(1, 2).list(0, 3).list(1, 1)
                .goes(4, 1).has(1, 0).list(2, 2).told(6, 3);
        sentence(4, "or MAIN has none, the first of IN goes", "IN has just a keys")
                .queues(3, 3, 3).puts(1, 2, 3).victim(1).goes(4, 1).list(0, 2, 3, 4).list(2, 1);
        sentence(4, "or MAIN has none, the first of IN goes", "a ghost comes")
                .queues(3, 3, 3).puts(1, 2, 3).goes(4, 1).goes(1, 2).list(0, 3, 4).list(1, 1)
                .list(2, 2).victim(1).goes(2, 1).list(0, 3, 4).list(1, 2).list(2);
        sentence(4, "otherwise the first of MAIN goes", "IN has none")
                .queues(1, 1, 1).puts(1).goes(2, 1).goes(1, 2).list(0).list(1, 1)
                .victim(1).goes(2, 1).list(0).list(1, 2).list(2).goes(3, 2).list(0, 3).list(1);
        sentence(4, "with a (1 .. capacity)", "64 of 64")
                .queues(64, 64, 1).puts(keys(0, 63)).victim(0).goes(64, 0).goes(0, 1)
                .list(1, 0).victim(0).goes(65, 0).told(3, 1).has(1, 1);
    }

    private static void queuesGhosts() {
        sentence(4, "and becomes the latest ghost (of more than b the first one is forgotten)")
                .queues(2, 1, 2).puts(1, 2).goes(3, 1).list(2, 1).goes(4, 2).list(2, 1, 2)
                .goes(5, 3).list(2, 2, 3).has(1, 0).told(3, 2).told(6, 3);
        sentence(4, "of more than b the first one is forgotten", "it comes as a new one")
                .queues(1, 1, 1).puts(1).goes(2, 1).goes(3, 2).goes(1, 3).list(0, 1).list(1).list(2, 3);
        sentence(4, "of more than b the first one is forgotten", "a dropped one is none of the b")
                .queues(1, 1, 2).puts(1).goes(2, 1).goes(3, 2).due("drop(0, 1)", 1)
                .goes(4, 3).list(2, 2, 3).goes(5, 4).list(2, 3, 4);
    }

    // ---- LISTS

    private static void listsUsing() {
        sentence(4, "Using makes a key the latest of TWICE")
                .shelf(LISTS, 3).list(0).list(1).list(2).list(3).puts(1, 2, 3).list(0, 1, 2, 3)
                .gets(2).list(0, 1, 3).list(1, 2).puts(1).list(0, 3).list(1, 2, 1)
                .uses(1, 3).list(0).list(1, 2, 1, 3).gets(2).list(1, 1, 3, 2)
                .gets(2).list(1, 1, 3, 2).told(2, 3).told(3, 0).told(7, 0);
        sentence(4, "Using makes a key the latest of TWICE", "the only key")
                .shelf(LISTS, 1).puts(1).list(0, 1).gets(1).list(0).list(1, 1).gets(1).list(1, 1);
    }

    private static void listsTargetBounds() {
        sentence(9, "a TARGET t, 0 .. capacity c, at first 0")
                .shelf(LISTS, 2).told(7, 0).puts(1, 2).told(7, 0).goes(3, 1).told(7, 0);
        Sentence most = sentence(4, "t becomes the lesser of c and t and the greater of 1",
                "just c, then more");
        most.shelf(LISTS, 3).putsAndGets(1, 2).puts(3); // 3 / 1 2 / - / -, 0
        most.goes(4, 3).goes(3, 1).told(7, 1); // 4 / 2 3 / - / 1, 1
        most.goes(5, 2).goes(6, 4); // 5 6 / 3 / 4 / 1 2, 1
        most.goes(4, 3).told(7, 3); // 5 6 / 4 / - / 1 2 3: 1 and 2 by 1 are just 3
        most.goes(1, 5).told(7, 2); // 6 / 4 1 / 5 / 2 3: in (2)
        most.goes(5, 4).told(7, 3); // 6 / 1 5 / - / 2 3 4: 2 and 2 by 1 are more than 3
        most.list(0, 6).list(1, 1, 5).list(2).list(3, 2, 3, 4);
        Sentence stays = sentence(4, "t becomes the lesser of c and t and the greater of 1",
                "it is c before");
        stays.shelf(LISTS, 6).putsAndGets(1, 2, 3).puts(4, 5, 6); // 4 5 6 / 1 2 3 / - / -, 0
        stays.goes(7, 4).goes(4, 5).goes(5, 1).told(7, 2); // 6 7 / 2 3 4 5 / - / 1
        stays.goes(8, 2).goes(9, 6).goes(10, 7); // 8 9 10 / 3 4 5 / 6 7 / 1 2
        stays.goes(6, 3).told(7, 3); // 8 9 10 / 4 5 6 / 7 / 1 2 3
        stays.goes(11, 4).goes(12, 8); // 9 10 11 12 / 5 6 / 7 8 / 1 2 3 4
        stays.goes(7, 5).told(7, 5); // 9 10 11 12 / 6 7 / 8 / 1 2 3 4 5: 3 and 4 by 2
        stays.goes(1, 9).told(7, 4); // 10 11 12 / 6 7 1 / 8 9 / 2 3 4 5
        stays.goes(8, 6).told(7, 6); // 10 11 12 / 7 1 8 / 9 / 2 3 4 5 6: 4 and 4 by 2 are just 6
        stays.goes(9, 7).told(7, 6); // 10 11 12 / 1 8 9 / - / 2 3 4 5 6 7: 6 and 5 by 1
        stays.list(0, 10, 11, 12).list(1, 1, 8, 9).list(2).list(3, 2, 3, 4, 5, 6, 7);
        sentence(4, "t becomes the lesser of c and t and the greater of 1", "c is 1")
                .shelf(LISTS, 1).putsAndGets(1).goes(2, 1).goes(1, 2).goes(2, 1).told(7, 1);
        Sentence least = sentence(4, "t becomes the greater of 0 and t less the greater of 1",
                "less than 0");
        least.shelf(LISTS, 3).putsAndGets(1, 2, 3).goes(4, 1).goes(5, 4).goes(6, 5);
        least.goes(1, 6).told(7, 0); // - / 2 3 1 / 4 5 6 / -: 0 less 2 by 1
        least.goes(4, 2).told(7, 1); // - / 3 1 4 / 5 6 / 2
        least.goes(2, 3).told(7, 0); // - / 1 4 2 / 5 6 / 3: 1 less 2 by 1
        least.list(0).list(1, 1, 4, 2).list(2, 5, 6).list(3, 3);
        sentence(4, "t becomes the greater of 0 and t less the greater of 1", "just 0")
                .shelf(LISTS, 1).putsAndGets(1).goes(2, 1).goes(1, 2).told(7, 0)
                .goes(2, 1).told(7, 1).goes(1, 2).told(7, 0);
    }

    private static void listsTargetUp() {
        sentence(4, "the greater of 1 and (ghosts of TWICE by ghosts of ONCE, cut off)", "0 by 1")
                .shelf(LISTS, 2).putsAndGets(1).puts(2).goes(3, 2).list(2, 2).list(3)
                .goes(2, 1).told(7, 1);
        Sentence two = sentence(4, "(ghosts of TWICE by ghosts of ONCE, cut off)", "2 by 1");
        two.shelf(LISTS, 3).putsAndGets(1, 2, 3).goes(4, 1).gets(4).goes(5, 2).goes(6, 5);
        two.list(2, 5).list(3, 1, 2).goes(5, 3).told(7, 2);
        Sentence cut = sentence(4, "(ghosts of TWICE by ghosts of ONCE, cut off)", "3 by 2");
        cut.shelf(LISTS, 5).putsAndGets(1, 2, 3).puts(4, 5); // 4 5 / 1 2 3 / - / -, 0
        cut.goes(6, 4).goes(4, 5).goes(5, 1).told(7, 2); // 6 / 2 3 4 5 / - / 1
        cut.goes(7, 2).goes(8, 3).goes(9, 6).goes(10, 7); // 8 9 10 / 4 5 / 6 7 / 1 2 3
        cut.list(2, 6, 7).list(3, 1, 2, 3).goes(6, 4).told(7, 3);
        Sentence before = sentence(4, "but the numbers of ghosts for t are those before",
                "2 by 2 in (1)");
        before.shelf(LISTS, 4).putsAndGets(1, 2, 3).puts(4); // 4 / 1 2 3 / - / -, 0
        before.goes(5, 4).goes(4, 1).told(7, 1); // 5 / 2 3 4 / - / 1
        before.goes(6, 2).goes(7, 5).goes(8, 6); // 7 8 / 3 4 / 5 6 / 1 2
        before.list(2, 5, 6).list(3, 1, 2).goes(5, 3).told(7, 2);
    }

    private static void listsTargetDown() {
        Sentence one = sentence(4, "the greater of 1 and (ghosts of ONCE by ghosts of TWICE, cut off)",
                "0 by 2");
        one.shelf(LISTS, 2).putsAndGets(1, 2).goes(3, 1).goes(4, 3).goes(1, 4); // - / 2 1 / 3 4 / -
        one.goes(3, 2).goes(4, 1).told(7, 2); // - / 3 4 / - / 2 1
        one.list(2).list(3, 2, 1).goes(1, 3).told(7, 1);
        Sentence two = sentence(4, "(ghosts of ONCE by ghosts of TWICE, cut off)", "2 by 1");
        two.shelf(LISTS, 6).putsAndGets(1).puts(2, 3, 4, 5, 6); // 2 3 4 5 6 / 1 / - / -, 0
        two.goes(7, 2).goes(2, 3).goes(3, 4).told(7, 2); // 5 6 7 / 1 2 3 / 4 / -
        two.goes(8, 5).goes(9, 6).goes(4, 1).told(7, 3); // 7 8 9 / 2 3 4 / 5 6 / 1
        two.list(2, 5, 6).list(3, 1).goes(1, 7).told(7, 1);
        Sentence cut = sentence(4, "(ghosts of ONCE by ghosts of TWICE, cut off)", "3 by 2");
        cut.shelf(LISTS, 5).putsAndGets(1, 2, 3, 4, 5).goes(6, 1); // 6 / 2 3 4 5 / - / 1, 0
        cut.goes(7, 6).goes(8, 7).goes(9, 8).goes(10, 9).goes(1, 10); // - / 2 3 4 5 1 / 6 .. 10 / -
        cut.goes(6, 2).goes(7, 3).told(7, 2); // - / 4 5 1 6 7 / 8 9 10 / 2 3
        cut.list(2, 8, 9, 10).list(3, 2, 3).goes(2, 4).told(7, 1);
        Sentence before = sentence(4, "but the numbers of ghosts for t are those before",
                "2 by 2 in (2)");
        before.shelf(LISTS, 4).putsAndGets(1).puts(2, 3, 4); // 2 3 4 / 1 / - / -, 0
        before.goes(5, 2).goes(2, 3).goes(3, 1).told(7, 2); // 4 5 / 2 3 / - / 1
        before.goes(6, 2).goes(7, 4).goes(4, 3).told(7, 4); // 5 6 7 / 4 / - / 1 2 3
        before.goes(1, 5).goes(2, 6).told(7, 2).goes(8, 4); // 7 8 / 1 2 / 5 6 / 3 4
        before.list(2, 5, 6).list(3, 3, 4).goes(3, 7).told(7, 1);
    }

    private static void listsGhostComes() {
        sentence(4, "in both it is a ghost no more, MAKING ROOM, and it becomes the latest of TWICE",
                "(1)")
                .shelf(LISTS, 3).putsAndGets(1).puts(2, 3).goes(4, 2).goes(2, 3)
                .has(2, 2).list(0, 4).list(1, 1, 2).list(2, 3).list(3);
        sentence(4, "in both it is a ghost no more, MAKING ROOM, and it becomes the latest of TWICE",
                "(2)")
                .shelf(LISTS, 2).putsAndGets(1, 2).goes(3, 1).goes(1, 3)
                .has(1, 2).list(0).list(1, 2, 1).list(2, 3).list(3);
    }

    private static void listsOnceAndGhostsAreC() {
        sentence(4, "otherwise the first of ONCE goes, and is forgotten")
                .shelf(LISTS, 3).puts(1, 2).victim(NONE).puts(3).victim(1).goes(4, 1)
                .has(1, 0).told(3, 0).told(6, 1).list(0, 2, 3, 4).list(2);
        sentence(4, "otherwise the first of ONCE goes, and is forgotten", "c is 1")
                .shelf(LISTS, 1).puts(1).goes(2, 1).has(1, 0).goes(1, 2).has(2, 0).told(3, 0);
        sentence(4, "otherwise the first of ONCE goes, and is forgotten", "c is 64")
                .shelf(LISTS, 64).puts(keys(0, 63)).goes(64, 0).has(0, 0).told(3, 0).told(2, 64);
        // 3 / - / - / 2, 1
        sentence(4, "otherwise the first of ONCE goes, and is forgotten", "the target is c")
                .shelf(LISTS, 1).putsAndGets(1).goes(2, 1).goes(1, 2).goes(2, 1).goes(3, 2)
                .told(7, 1).victim(3).goes(4, 3).has(3, 0).list(0, 4).list(2).list(3, 2).told(7, 1);
        sentence(4, "if ONCE has less than c, the first ghost of ONCE is forgotten, and MAKING ROOM")
                .shelf(LISTS, 2).putsAndGets(1).puts(2).goes(3, 2).list(2, 2)
                .victim(3).goes(4, 3).has(2, 0).list(0, 4).list(1, 1).list(2, 3);
        // - / 2 3 1 / 4 5 6 / -
        sentence(4, "if ONCE has less than c, the first ghost of ONCE is forgotten",
                "ONCE has none")
                .shelf(LISTS, 3).putsAndGets(1, 2, 3).goes(4, 1).goes(5, 4).goes(6, 5).goes(1, 6)
                .goes(7, 2).list(0, 7).list(1, 3, 1).list(2, 5, 6).list(3, 2).has(4, 0);
        sentence(4, "the first ghost of ONCE is forgotten, and MAKING ROOM", "it is not full")
                .shelf(LISTS, 2).putsAndGets(1, 2).goes(3, 1).goes(4, 3).goes(1, 4).list(2, 3, 4)
                .drops(1).puts(5).list(0, 5).list(1, 2).list(2, 4).has(3, 0);
        // 4 / 2 / 3 / 1: all four are 2 c, but the ghost of TWICE stays
        sentence(4, "if ONCE and its ghosts are c",
                "a ghost of TWICE stays, though all four are 2 c")
                .shelf(LISTS, 2).putsAndGets(1, 2).goes(3, 1).goes(4, 3)
                .goes(5, 4).list(0, 5).list(1, 2).list(2, 4).list(3, 1);
    }

    private static void listsOnceAndGhostsAreLess() {
        sentence(4, "all four are c or more", "just c")
                .shelf(LISTS, 2).putsAndGets(1).puts(2).victim(2).goes(3, 2).has(2, 1).list(2, 2);
        sentence(4, "all four are c or more", "less: none goes, no ghost is forgotten")
                .shelf(LISTS, 3).putsAndGets(1, 2, 3).goes(4, 1).drops(2, 3, 4)
                .puts(5).has(1, 1).list(0, 5).list(3, 1).puts(6).has(1, 1);
        sentence(4, "the first ghost of TWICE is forgotten, if they are 2 c", "one less")
                .shelf(LISTS, 2).putsAndGets(1, 2).goes(3, 1).list(3, 1)
                .goes(4, 3).list(0, 4).list(1, 2).list(2, 3).list(3, 1);
        sentence(4, "the first ghost of TWICE is forgotten, if they are 2 c, and MAKING ROOM")
                .shelf(LISTS, 2).putsAndGets(1, 2).goes(3, 1).gets(3).goes(4, 2).gets(4)
                .list(1, 3, 4).list(3, 1, 2).goes(5, 3).has(1, 0).list(0, 5).list(1, 4).list(3, 2, 3);
        // - / 2 4 / 3 / 1
        sentence(4, "the first ghost of TWICE is forgotten, if they are 2 c", "ghosts of ONCE stay")
                .shelf(LISTS, 2).putsAndGets(1, 2).goes(3, 1).goes(4, 3).gets(4)
                .goes(5, 2).has(1, 0).list(0, 5).list(1, 4).list(2, 3).list(3, 2);
        sentence(4, "if they are 2 c, and MAKING ROOM", "one less, and not full")
                .shelf(LISTS, 2).putsAndGets(1, 2).goes(3, 1).gets(3).goes(4, 2).gets(4).drops(3)
                .puts(5).list(0, 5).list(1, 4).list(3, 1, 2);
        Sentence wide = sentence(4, "the first ghost of TWICE is forgotten, if they are 2 c",
                "128");
        wide.shelf(LISTS, 64).putsAndGets(keys(0, 63));
        for (int key = 64; key < 128; key++) {
            wide.goes(key, key - 64).gets(key);
        }
        wide.told(2, 64).told(3, 64).has(0, 1).goes(128, 64).told(3, 64).has(0, 0).has(1, 1)
                .due("list(0, 3, 63)", 64).due("list(0, 3, 64)", NONE);
        sentence(4, "then it becomes the latest of ONCE")
                .shelf(LISTS, 3).puts(1, 2).list(0, 1, 2).puts(3).list(0, 1, 2, 3)
                .goes(4, 1).list(0, 2, 3, 4).gets(2).goes(5, 3).list(0, 4, 5);
    }

    private static void makingRoomIfFull() {
        sentence(4, "MAKING ROOM, if it is full", "in (1) it is not")
                .shelf(LISTS, 1).putsAndGets(1).goes(2, 1).goes(1, 2).drops(1)
                .puts(2).told(7, 1).list(0).list(1, 2).list(2).list(3);
        sentence(4, "MAKING ROOM, if it is full", "in (2) it is not")
                .shelf(LISTS, 1).putsAndGets(1).goes(2, 1).goes(1, 2).goes(2, 1).told(7, 1).drops(2)
                .puts(1).told(7, 0).list(0).list(1, 1).list(2).list(3);
    }

    private static void makingRoomMoreThanTarget() {
        Sentence all = sentence(4, "if ONCE has some, and more than t", "in (1) and (3)");
        all.shelf(LISTS, 3).putsAndGets(1).puts(2, 3); // 2 3 / 1 / - / -, 0
        all.victim(2).goes(4, 2); // 3 4 / 1 / 2 / -: in (3), 2 are more than 0
        all.goes(2, 3).told(7, 1); // 4 / 1 2 / 3 / -: in (1), 2 are more than 1
        all.victim(1).goes(5, 1); // 4 5 / 2 / 3 / 1: in (3), 1 is not more than 1
        all.victim(4).goes(6, 4); // 5 6 / 2 / 4 / 1: in (3), 2 are more than 1
        all.list(0, 5, 6).list(1, 2).list(2, 4).list(3, 1).told(6, 4);
        sentence(4, "if ONCE has some, and more than t", "in (2)")
                .shelf(LISTS, 2).putsAndGets(1, 2).goes(3, 1).goes(1, 3).told(7, 0)
                .list(0).list(1, 2, 1).list(2, 3);
        sentence(4, "the first of ONCE goes and becomes its latest ghost")
                .shelf(LISTS, 3).putsAndGets(1, 2).puts(3).goes(4, 3).list(2, 3)
                .goes(5, 4).list(2, 3, 4).list(3);
        sentence(4, "otherwise the first of TWICE, and its latest ghost")
                .shelf(LISTS, 2).putsAndGets(1, 2).goes(3, 1).list(3, 1).gets(3)
                .goes(4, 2).list(3, 1, 2).list(2);
    }

    private static void makingRoomJustTarget() {
        sentence(4, "or just t in (2)", "in (1) the first of TWICE goes")
                .shelf(LISTS, 2).putsAndGets(1).puts(2).goes(3, 2)
                .goes(2, 1).told(7, 1).list(0, 3).list(1, 2).list(2).list(3, 1);
        sentence(4, "or just t in (2)", "in (3) the first of TWICE goes")
                .shelf(LISTS, 2).putsAndGets(1).puts(2).goes(3, 2).goes(2, 1)
                .victim(2).goes(4, 2).list(0, 3, 4).list(1).list(3, 1, 2);
        Sentence just =
                sentence(4, "or just t in (2), the first of ONCE goes and becomes its latest ghost");
        just.shelf(LISTS, 2).putsAndGets(1, 2).goes(3, 1).goes(4, 3).goes(1, 4); // - / 2 1 / 3 4 / -
        just.goes(3, 2).goes(4, 1).goes(5, 3).told(7, 2); // 5 / 4 / - / 1 3
        just.victim(4).goes(1, 5).told(7, 1).list(0).list(1, 4, 1).list(2, 5).list(3, 3);
        Sentence less = sentence(4, "or just t in (2)", "with one less the first of TWICE goes");
        less.shelf(LISTS, 3).putsAndGets(1, 2, 3).goes(4, 1).goes(5, 4).goes(6, 5); // 6 / 2 3 / 4 5 / 1
        less.goes(4, 2).goes(5, 3).told(7, 3); // 6 / 4 5 / - / 1 2 3
        less.goes(1, 4).told(7, 2).list(0, 6).list(1, 5, 1).list(2).list(3, 2, 3, 4);
        sentence(4, "if ONCE has some", "just t in (2), but both are 0")
                .shelf(LISTS, 1).putsAndGets(1).goes(2, 1).gets(2)
                .goes(1, 2).told(7, 0).list(0).list(1, 1).list(2).list(3, 2);
    }

    private static void makingRoomFromTheOther() {
        sentence(4, "if ONCE has some", "in (3) it has none")
                .shelf(LISTS, 2).putsAndGets(1, 2).victim(1).goes(3, 1).list(3, 1).list(2);
        // - / 2 1 / 3 4 / -, then in (1)
        sentence(4, "if ONCE has some", "in (1) it has none")
                .shelf(LISTS, 2).putsAndGets(1, 2).goes(3, 1).goes(4, 3).goes(1, 4)
                .goes(3, 2).list(1, 1, 3).list(2, 4).list(3, 2);
        // 3 4 / - / - / 1 2, 1
        sentence(4, "(if TWICE has none, that of ONCE after all)")
                .shelf(LISTS, 2).putsAndGets(1).puts(2).goes(3, 2).goes(2, 1).goes(4, 2).list(1)
                .goes(1, 3).told(7, 0).list(0, 4).list(1, 1).list(2, 3).list(3, 2);
        // 3 / - / - / 2, 1
        sentence(4, "(if TWICE has none, that of ONCE after all)", "the target was c")
                .shelf(LISTS, 1).putsAndGets(1).goes(2, 1).goes(1, 2).goes(2, 1).goes(3, 2).told(7, 1)
                .goes(2, 3).told(7, 0).list(0).list(1, 2).list(2, 3).list(3);
    }

    private static void makingRoomBehindTheGhost() {
        // a ghost row that is full has room for the one that goes
        sentence(4, "in (1) and (2) it is out of the ghosts before room is made", "(1)")
                .shelf(LISTS, 1).putsAndGets(1).goes(2, 1).goes(1, 2).list(2, 2)
                .goes(2, 1).has(2, 2).list(2).list(3, 1);
        sentence(4, "in (1) and (2) it is out of the ghosts before room is made", "(2)")
                .shelf(LISTS, 1).putsAndGets(1).goes(2, 1).gets(2).list(3, 1)
                .goes(1, 2).has(1, 2).list(3, 2);
    }
}
