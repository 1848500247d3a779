/**
 * The document from its first line on, the sentences that name no boundary: what is done in the
 * ordinary case, with answers worked out by hand (the row on which all six ways differ was found
 * by a search with Model, and then followed by hand). A comment tells the lists of LISTS behind a
 * call: ONCE / TWICE / ghosts of ONCE / ghosts of TWICE, and the target.
 */
public final class SentencesTest {
    private static final int NONE = PolicyRack.NONE;
    private static final int FIRST = 0;
    private static final int LATELY = 1;
    private static final int OFTEN = 2;
    private static final int CLOCK = 3;
    private static final int LISTS = 5;

    private static final Check CHECK = new Check("SentencesTest");

    public static void main(String[] args) {
        sixWays();
        sixWaysOnOneRow();
        bestOneOfAll();
        heldKeysHaveAValue();
        getUses();
        othersMayGo();
        numbersOfFirstLatelyOften();
        numberOfClock();
        numberOfQueues();
        queuesMain();
        listsInOrder();
        listsGhostsCome();
        listsElse();
        listsWhatTheKeyWas();
        useByAll();
        distances();
        curves();
        optima();
        getTheValue();
        dropTellsWhatItWas();
        listsOfShelves();
        toldWayCapacityHeld();
        useTellsHits();
        countShelves();
        CHECK.end();
    }

    private static Sentence sentence(int promise, String words) {
        return sentence(promise, words, "");
    }

    private static Sentence sentence(int promise, String words, String tried) {
        return new Sentence(CHECK, promise, words, tried);
    }

    // ---- 'What it is'

    private static void sixWays() {
        String words = "A rack of caches with six ways to choose what goes: first come, "
                + "least lately used, least often used, a clock, two queues with a ghost, "
                + "and four lists that adapt";
        sentence(4, words, "first come").shelf(FIRST, 3).puts(1, 2, 3).gets(1)
                .goes(4, 1).goes(1, 2).gets(3).goes(2, 3).goes(5, 4);
        sentence(4, words, "least lately used").shelf(LATELY, 3).puts(1, 2, 3).gets(1)
                .goes(4, 2).gets(1, 3).goes(2, 4).goes(5, 1);
        sentence(4, words, "least often used").shelf(OFTEN, 3).puts(1, 2, 3).gets(1)
                .goes(4, 2).gets(1, 3).goes(2, 4).goes(5, 2);
        sentence(4, words, "a clock").shelf(CLOCK, 3).puts(1, 2, 3).gets(1)
                .goes(4, 2).gets(1, 3).goes(2, 4).goes(5, 3);
        sentence(4, words, "two queues with a ghost").queues(3, 1, 2).puts(1, 2, 3).gets(1)
                .goes(4, 1).goes(1, 2).gets(3).goes(2, 3).goes(5, 1);
        sentence(4, words, "four lists that adapt").shelf(LISTS, 3).puts(1, 2, 3).gets(1)
                .goes(4, 2).gets(1, 3).goes(2, 1).goes(5, 3);
    }

    private static void sixWaysOnOneRow() {
        Sentence s = sentence(10, "one row of uses for all of them", "each way lets others go");
        for (int way = FIRST; way <= LISTS; way++) {
            s.due("shelf(" + way + ", 3, 1, 2)", way);
        }
        s.uses(0, 1, 2, 3).uses(63, 1).uses(0, 4);
        // 1 went from FIRST and QUEUES, and from no other
        s.uses(63 - 1 - 16, 1).uses(63, 3).uses(0, 2, 5);
        s.listOf(0, 0, 1, 2, 5).listOf(1, 0, 3, 2, 5).listOf(2, 0, 5, 3, 1).listOf(3, 0, 1, 2, 5)
                .listOf(4, 0, 4, 5).listOf(4, 1, 2).listOf(4, 2, 3)
                .listOf(5, 0, 4, 5).listOf(5, 1, 2).listOf(5, 2).listOf(5, 3, 1, 3);
        int[] misses = {7, 6, 6, 6, 7, 6};
        for (int way = FIRST; way <= LISTS; way++) {
            s.due("told(" + way + ", 5)", misses[way]).due("told(" + way + ", 4)", 9 - misses[way]);
        }
        s.due("count(1)", 9).due("count(2)", 5);
    }

    private static void bestOneOfAll() {
        Sentence s = sentence(14, "one row of uses for all of them, "
                + "and what the best one of all could have done with it.");
        s.due("shelf(0, 3, 0, 0)", 0).due("shelf(1, 3, 0, 0)", 1);
        s.due("shelf(0, 4, 0, 0)", 2).due("shelf(1, 4, 0, 0)", 3);
        s.uses(0, 1, 2, 3, 4).uses(12, 1, 2).uses(0, 5).uses(11, 1, 2).uses(0, 3, 4).uses(1, 5);
        s.due("told(0, 5)", 9).due("told(1, 5)", 10).due("optimum(3)", 7);
        s.due("told(2, 5)", 10).due("told(3, 5)", 8).due("optimum(4)", 6);
    }

    // ---- 'Terms', up to the ways

    private static void heldKeysHaveAValue() {
        for (int way = FIRST; way <= LISTS; way++) {
            sentence(3, "keys that it HOLDS have a value", "each its own")
                    .shelf(way, 3).due("put(0, 1, -5)", NONE).due("put(0, 2, 0)", NONE)
                    .due("put(0, 3, 7)", NONE).due("get(0, 2)", 0).due("get(0, 1)", -5)
                    .due("get(0, 3)", 7).due("put(0, 2, 9)", NONE).due("get(0, 1)", -5)
                    .due("get(0, 2)", 9).due("get(0, 3)", 7);
            sentence(3, "keys that it HOLDS have a value", "on each shelf its own")
                    .shelf(way, 2).due("shelf(1, 2, 0, 0)", 1)
                    .due("put(0, 1, 5)", NONE).due("put(1, 1, 6)", NONE)
                    .due("get(0, 1)", 5).due("get(1, 1)", 6)
                    .due("drop(1, 1)", 2).due("get(0, 1)", 5).due("get(1, 1)", Check.ELEMENT);
        }
    }

    private static void getUses() {
        String words = "GET of a key that it holds is a HIT: it is USED";
        sentence(3, words, "FIRST").shelf(FIRST, 2).puts(1, 2).gets(1).goes(3, 1);
        sentence(3, words, "LATELY").shelf(LATELY, 2).puts(1, 2).gets(1).goes(3, 2);
        sentence(3, words, "OFTEN").shelf(OFTEN, 2).puts(1, 2).gets(1).goes(3, 2);
        sentence(3, words, "CLOCK").shelf(CLOCK, 2).puts(1, 2).gets(1).goes(3, 2);
        sentence(3, words, "QUEUES").queues(3, 1, 3).puts(1, 2, 3).goes(4, 1).goes(1, 2)
                .goes(2, 3).list(1, 1, 2).gets(1).list(1, 2, 1);
        sentence(3, words, "LISTS").shelf(LISTS, 2).puts(1, 2).gets(1).list(0, 2).list(1, 1);
    }

    private static void othersMayGo() {
        for (int way = FIRST; way <= LISTS; way++) {
            sentence(4, "it COMES with its value, and others may GO")
                    .shelf(way, 2).due("put(0, 1, 5)", NONE).due("put(0, 2, 6)", NONE)
                    .due("put(0, 3, 7)", 1).due("get(0, 3)", 7).due("get(0, 2)", 6)
                    .due("get(0, 1)", Check.ELEMENT).told(2, 2).told(6, 1);
        }
    }

    // ---- 'Terms', the ways

    private static void numbersOfFirstLatelyOften() {
        sentence(2, "0 FIRST: if it is full, the one that came first goes. Using changes nothing.")
                .due("shelf(0, 3, 0, 0)", 0).told(0, 0)
                .puts(1, 2, 3).gets(1).puts(1).goes(4, 1).gets(2).goes(5, 2).list(0, 3, 4, 5);
        sentence(2, "1 LATELY: if it is full, the one goes that was used (or came) longest ago.")
                .due("shelf(1, 3, 0, 0)", 0).told(0, 1)
                .puts(1, 2, 3).gets(1).puts(2).goes(4, 3).goes(5, 1).goes(6, 2).list(0, 4, 5, 6);
        sentence(2, "2 OFTEN: a key has a COUNT, 1 when it comes, one more by each use; if it is "
                + "full, one with the least count goes, of several the one that was used (or came) "
                + "longest ago.")
                .due("shelf(2, 3, 0, 0)", 0).told(0, 2)
                .puts(1, 2, 3).gets(1).puts(1).gets(2).list(0, 3, 2, 1).goes(4, 3).gets(4)
                .list(0, 2, 4, 1).goes(5, 2).goes(6, 5).list(0, 6, 4, 1);
    }

    private static void numberOfClock() {
        sentence(2, "3 CLOCK: places 0 .. capacity - 1")
                .due("shelf(3, 3, 0, 0)", 0).told(0, 3).told(7, 0)
                .puts(1, 2, 3).list(0, 1, 2, 3).told(7, 0);
        sentence(4, "If there is none: as long as the place at the hand has a mark, that is cleared "
                + "and the hand goes on to the next place (behind the last one the first); the key "
                + "there goes, the new one takes its place, without a mark, and the hand goes on.")
                .shelf(CLOCK, 3).puts(1, 2, 3).gets(1).goes(4, 2).list(0, 1, 4, 3).told(7, 2)
                .gets(3).goes(5, 1).list(0, 5, 4, 3).told(7, 1).goes(6, 4).list(0, 5, 6, 3).told(7, 2);
    }

    private static void numberOfQueues() {
        sentence(2, "4 QUEUES, with a (1 .. capacity) and b (1 .. 64): IN, a row of those that came "
                + "once; MAIN, those that were used or came again; ghosts, at most b.")
                .due("shelf(4, 3, 1, 2)", 0).told(0, 4)
                .puts(1, 2, 3).list(0, 1, 2, 3).goes(4, 1).goes(1, 2)
                .list(0, 3, 4).list(1, 1).list(2, 2).told(2, 3).told(3, 1);
        sentence(4, "A key that comes: if it is a ghost, it is one no more, and becomes the latest "
                + "of MAIN, otherwise the latest of IN")
                .queues(2, 1, 2).puts(1, 2).goes(3, 1).list(0, 2, 3).has(1, 1).goes(1, 2).has(1, 2)
                .list(0, 3).list(1, 1).list(2, 2).goes(4, 1).list(0, 3, 4).list(1).list(2, 2);
    }

    private static void queuesMain() {
        // the next sentence says that using does nothing to a key of IN
        sentence(4, "MAIN, those that were used or came again", "used in IN, came again, used")
                .queues(3, 1, 2).puts(1, 2, 3).gets(1).list(0, 1, 2, 3).list(1)
                .goes(4, 1).goes(1, 2).list(1, 1).gets(1).list(0, 3, 4).list(1, 1)
                .goes(2, 3).list(0, 4).list(1, 1, 2).list(2, 3);
    }

    /** 7 8 / 3 4 / 5 6 / 1 2, target 1, of capacity 4. */
    private static Sentence fourLists(int promise, String words) {
        Sentence s = sentence(promise, words);
        s.shelf(LISTS, 4).putsAndGets(1, 2, 3).puts(4); // 4 / 1 2 3 / - / -, 0
        s.goes(5, 4).goes(4, 1).told(7, 1); // 5 / 2 3 4 / - / 1
        s.goes(6, 2).goes(7, 5).goes(8, 6);
        return s.list(0, 7, 8).list(1, 3, 4).list(2, 5, 6).list(3, 1, 2).told(7, 1);
    }

    private static void listsInOrder() {
        fourLists(2, "5 LISTS: ONCE and TWICE, of keys that it holds, and ghosts of both, "
                + "each in the order of their coming")
                .told(0, 5).told(2, 4).told(3, 4).has(7, 2).has(8, 2).has(3, 2).has(4, 2)
                .has(5, 1).has(6, 1).has(1, 1).has(2, 1)
                .due("get(0, 5)", Check.ELEMENT).due("get(0, 1)", Check.ELEMENT)
                .gets(7, 8, 3, 4).list(0).list(1, 7, 8, 3, 4).list(2, 5, 6).list(3, 1, 2);
    }

    private static void listsGhostsCome() {
        fourLists(4, "A key that comes: (1) a ghost of ONCE: t becomes the lesser of c and t and the "
                + "greater of 1 and (ghosts of TWICE by ghosts of ONCE, cut off) together")
                .goes(5, 3).told(7, 2).list(0, 7, 8).list(1, 4, 5).list(2, 6).list(3, 1, 2, 3)
                .goes(6, 4).told(7, 4).list(0, 7, 8).list(1, 5, 6).list(2).list(3, 1, 2, 3, 4);
        fourLists(4, "(2) a ghost of TWICE: t becomes the greater of 0 and t less the greater of 1 "
                + "and (ghosts of ONCE by ghosts of TWICE, cut off)")
                .goes(1, 7).told(7, 0).list(0, 8).list(1, 3, 4, 1).list(2, 5, 6, 7).list(3, 2);
    }

    private static void listsElse() {
        fourLists(4, "(3) Else, if ONCE and its ghosts are c: if ONCE has less than c, the first "
                + "ghost of ONCE is forgotten, and MAKING ROOM")
                .goes(9, 7).told(7, 1).list(0, 8, 9).list(1, 3, 4).list(2, 6, 7).list(3, 1, 2);
        sentence(4, "if they are less than c, and all four are c or more: the first ghost of TWICE "
                + "is forgotten, if they are 2 c, and MAKING ROOM; then it becomes the latest of ONCE.")
                .shelf(LISTS, 2).putsAndGets(1, 2).goes(3, 1).goes(4, 3).gets(4)
                .list(0).list(1, 2, 4).list(2, 3).list(3, 1)
                .goes(5, 2).list(0, 5).list(1, 4).list(2, 3).list(3, 2).has(1, 0);
    }

    private static void listsWhatTheKeyWas() {
        String words = "(What the key was, counts no more there: in (1) and (2) it is out of the "
                + "ghosts before room is made, but the numbers of ghosts for t are those before.)";
        // 2 by 2 are 1; without the key that comes it would be 2 by 1
        fourLists(4, words).goes(5, 3).told(7, 2).list(2, 6).list(3, 1, 2, 3);
        fourLists(4, words).goes(1, 7).told(7, 0).list(2, 5, 6, 7).list(3, 2);
        sentence(4, words, "it was the only ghost")
                .shelf(LISTS, 1).putsAndGets(1).goes(2, 1).list(3, 1).goes(1, 2).told(7, 0)
                .list(1, 1).list(2, 2).list(3).goes(2, 1).told(7, 1).list(1, 2).list(2).list(3, 1);
    }

    // ---- 'Terms', the row

    private static void useByAll() {
        sentence(10, "A USE of a key by all: the row gets it", "whether there is a hit or not")
                .uses(0, 4).due("count(1)", 1).shelf(LATELY, 1).uses(0, 4).uses(1, 4)
                .due("count(1)", 3).uses(0, 5).due("count(1)", 4).due("count(2)", 2)
                .due("distance(1)", 0).due("distance(2)", 0).due("distance(3)", NONE);
        sentence(10, "A USE of a key by all: the row gets it", "no other call gives it one")
                .shelf(LATELY, 1).puts(1).gets(1).has(1, 2).drops(1).due("count(1)", 0);
    }

    private static void distances() {
        int[] distances = {NONE, NONE, NONE, 2, NONE, 1, 2, 3, NONE};
        Sentence s = sentence(12, "The DISTANCE of a use is how many different keys were used since "
                + "that key was used last (between both uses: 0 if none).");
        s.uses(0, 1, 2, 3, 1, 4, 1, 3, 2, 5);
        for (int i = 0; i < distances.length; i++) {
            s.due("distance(" + i + ")", distances[i]);
        }
        Sentence grown = sentence(12, "The distance of use i of the row", "later uses leave it");
        int[] row = {1, 2, 3, 1, 4, 1, 3, 2, 5};
        for (int i = 0; i < row.length; i++) {
            grown.uses(0, row[i]).due("distance(" + i + ")", distances[i]);
        }
        grown.due("distance(3)", 2).due("distance(0)", NONE).due("distance(7)", 3);
    }

    private static void curves() {
        int[] misses = {9, 8, 6, 5, 5};
        Sentence s = sentence(13, "The CURVE for a capacity is how many uses of the row have no "
                + "distance or one not below the capacity.");
        Sentence lately = sentence(13, "The curve for a capacity.", "it is what LATELY misses");
        for (int i = 0; i < misses.length; i++) {
            lately.due("shelf(1, " + (i + 1) + ", 0, 0)", i);
        }
        s.uses(0, 1, 2, 3, 1, 4, 1, 3, 2, 5);
        // hits of LATELY by capacity: distance 2 from 3 on, 1 from 2 on, 3 from 4 on
        lately.uses(0, 1, 2, 3).uses(28, 1).uses(0, 4).uses(30, 1).uses(28, 3).uses(24, 2).uses(0, 5);
        for (int i = 0; i < misses.length; i++) {
            s.due("curve(" + (i + 1) + ")", misses[i]);
            lately.due("curve(" + (i + 1) + ")", misses[i]).due("told(" + i + ", 5)", misses[i]);
        }
    }

    private static void optima() {
        int[] least = {12, 9, 7, 6, 5, 5};
        Sentence s = sentence(14, "The OPTIMUM for a capacity is the least number of misses that any "
                + "cache of it can have on the row that holds nothing at first, gets each key as it "
                + "is used, and holds it then.");
        s.uses(0, 1, 2, 3, 4, 1, 2, 5, 1, 2, 3, 4, 5);
        for (int i = 0; i < least.length; i++) {
            s.due("optimum(" + (i + 1) + ")", least[i]);
        }
        sentence(14, "The optimum for a capacity.", "less than FIRST, LATELY miss")
                .due("shelf(0, 2, 0, 0)", 0).due("shelf(1, 2, 0, 0)", 1)
                .uses(0, 1, 2).uses(3, 1).uses(0, 3).uses(2, 1).uses(0, 2, 3)
                .due("told(0, 5)", 6).due("told(1, 5)", 5)
                .due("optimum(1)", 7).due("optimum(2)", 4).due("optimum(3)", 3);
    }

    // ---- the promises

    private static void getTheValue() {
        for (int way = FIRST; way <= LISTS; way++) {
            sentence(3, "GET: the value.", "of PUT, of USE, of the last PUT")
                    .shelf(way, 3).due("put(0, 1, 17)", NONE).due("get(0, 1)", 17).due("get(0, 1)", 17)
                    .uses(0, 2).due("get(0, 2)", 1).uses(1, 1).due("get(0, 1)", 17)
                    .due("put(0, 2, 18)", NONE).due("get(0, 2)", 18);
        }
    }

    private static void dropTellsWhatItWas() {
        for (int way = FIRST; way <= LISTS; way++) {
            sentence(5, "DROP: 2 if it was held, 1 if it was a ghost, else 0.")
                    .shelf(way, 2).puts(1, 2).goes(3, 1).due("drop(0, 1)", way == 4 ? 1 : 0)
                    .due("drop(0, 2)", 2).due("drop(0, 2)", 0).due("drop(0, 4)", 0).told(2, 1);
        }
    }

    private static void listsOfShelves() {
        for (int way = FIRST; way <= LISTS; way++) {
            sentence(8, "Key i of a list, the first one at 0")
                    .shelf(way, 3).puts(7, 5, 6).due("list(0, 0, 0)", 7).due("list(0, 0, 1)", 5)
                    .due("list(0, 0, 2)", 6).due("list(0, 0, 3)", NONE);
        }
        String words = "FIRST, LATELY: list 0, in the order in which they would go; OFTEN: so, too";
        sentence(8, words, "FIRST").shelf(FIRST, 3).puts(1, 2, 3).gets(2, 1).list(0, 1, 2, 3)
                .goes(4, 1).goes(5, 2).goes(6, 3);
        sentence(8, words, "LATELY").shelf(LATELY, 3).puts(1, 2, 3).gets(2, 1).list(0, 3, 2, 1)
                .goes(4, 3).goes(5, 2).goes(6, 1);
        sentence(8, words, "OFTEN").shelf(OFTEN, 3).puts(1, 2, 3).gets(1, 1, 2).list(0, 3, 2, 1)
                .goes(4, 3).gets(4, 4, 4).list(0, 2, 1, 4).goes(5, 2).gets(5, 5, 5).list(0, 1, 4, 5)
                .goes(6, 1);
        sentence(8, "CLOCK: 0 by places").shelf(CLOCK, 3).puts(1, 2, 3).gets(1).list(0, 1, 2, 3)
                .goes(4, 2).list(0, 1, 4, 3).drops(1).due("list(0, 0, 0)", NONE)
                .due("list(0, 0, 1)", 4).due("list(0, 0, 2)", 3);
        sentence(8, "QUEUES: 0 IN, 1 MAIN, 2 ghosts").queues(4, 1, 2).puts(1, 2, 3, 4).goes(5, 1)
                .goes(1, 2).goes(2, 3).goes(6, 4).list(0, 5, 6).list(1, 1, 2).list(2, 3, 4);
        fourLists(8, "LISTS: 0 ONCE, 1 TWICE, 2 ghosts of ONCE, 3 of TWICE");
    }

    private static void toldWayCapacityHeld() {
        for (int way = FIRST; way <= LISTS; way++) {
            sentence(9, "0 the way, 1 the capacity, 2 how many keys it holds")
                    .shelf(way, 3 + way).told(0, way).told(1, 3 + way).told(2, 0).puts(1).told(2, 1)
                    .puts(2).gets(2).told(2, 2).drops(1).told(2, 1).told(0, way).told(1, 3 + way);
        }
    }

    private static void useTellsHits() {
        sentence(10, "A USE by all: the shelves that had a hit, as bits.")
                .due("shelf(0, 2, 0, 0)", 0).due("shelf(1, 2, 0, 0)", 1).due("shelf(5, 2, 0, 0)", 2)
                .uses(0, 1, 2).uses(7, 1).uses(0, 3).uses(6, 1).due("drop(2, 1)", 2).uses(3, 1);
    }

    private static void countShelves() {
        Sentence s = sentence(15, "0 how many shelves there are, 1 uses of the row");
        for (int way = FIRST; way <= LISTS; way++) {
            s.due("count(0)", way).due("shelf(" + way + ", 2, 1, 1)", way)
                    .due("count(0)", way + 1).due("count(1)", way).uses(0, way).due("count(1)", way + 1);
        }
    }
}
