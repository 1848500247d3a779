import java.util.ArrayList;
import java.util.LinkedHashSet;
import java.util.List;
import java.util.Set;

/**
 * A sentence of the document, with its promise's number, and calls on a new object that show
 * whether it holds. The short forms (puts, goes, gets ...) are all of shelf 0.
 */
final class Sentence {
    private static final int NONE = PolicyRack.NONE;
    private static final int[] LISTS_OF_WAY = {1, 1, 1, 1, 3, 4};
    private static final int MOST_LOOKED_AT = 6;
    private static final int NEW_KEY = 440;
    private static final Set<Quote> TRIED = new LinkedHashSet<>();

    private final Check check;
    private final Quote quote;
    private final String title;
    private final TextRack rack = new TextRack();
    private final List<String> all = new ArrayList<>();
    private final List<String> withoutAsides = new ArrayList<>();
    private boolean missesDiffer;

    Sentence(Check check, int promise, String words, String tried) {
        this.check = check;
        quote = new Quote(promise, words);
        String behind = tried.isEmpty() ? "" : " (" + tried + ")";
        title = "promise " + promise + " \"" + words + "\"" + behind + " ";
    }

    record Quote(int promise, String words) { }

    /** What the sentences quote that have checked an answer so far. */
    static Set<Quote> tried() {
        return TRIED;
    }

    Sentence due(String call, int want) {
        return due(call, Integer.toString(want));
    }

    Sentence due(String call, String want) {
        withoutAsides.add(call);
        return ask(call, want);
    }

    /** A call that must leave everything as it was: see undisturbed(). */
    Sentence aside(String call, int want) {
        return aside(call, Integer.toString(want));
    }

    Sentence aside(String call, String want) {
        return ask(call, want);
    }

    /** An aside but for one thing: it counts a miss. */
    Sentence asideButAMiss(String call) {
        missesDiffer = true;
        return ask(call, Check.ELEMENT);
    }

    private Sentence ask(String call, String want) {
        all.add(call);
        TRIED.add(quote);
        check.same(title + call, rack.answer(call), want);
        return this;
    }

    Sentence shelf(int way, int capacity) {
        return due("shelf(" + way + ", " + capacity + ", 1, 1)", 0);
    }

    Sentence queues(int capacity, int a, int b) {
        return due("shelf(4, " + capacity + ", " + a + ", " + b + ")", 0);
    }

    /** Each key comes or is used, and none goes for it. */
    Sentence puts(int... keys) {
        for (int key : keys) {
            goes(key, NONE);
        }
        return this;
    }

    /** The key is put, and another one goes for it. */
    Sentence goes(int key, int gone) {
        return due("put(0, " + key + ", " + 10 * key + ")", gone);
    }

    Sentence gets(int... keys) {
        for (int key : keys) {
            due("get(0, " + key + ")", 10 * key);
        }
        return this;
    }

    /** Each key comes and is used. */
    Sentence putsAndGets(int... keys) {
        for (int key : keys) {
            puts(key).gets(key);
        }
        return this;
    }

    Sentence drops(int... keys) {
        for (int key : keys) {
            due("drop(0, " + key + ")", 2);
        }
        return this;
    }

    /** Uses with the bits that are due for each. */
    Sentence uses(int bits, int... keys) {
        for (int key : keys) {
            due("use(" + key + ")", bits);
        }
        return this;
    }

    Sentence has(int key, int want) {
        return due("has(0, " + key + ")", want);
    }

    Sentence victim(int want) {
        return due("victim(0)", want);
    }

    Sentence told(int what, int want) {
        return due("told(0, " + what + ")", want);
    }

    Sentence list(int list, int... keys) {
        return listOf(0, list, keys);
    }

    /** The whole list: these keys, and none behind them. */
    Sentence listOf(int shelf, int list, int... keys) {
        String call = "list(" + shelf + ", " + list + ", ";
        for (int i = 0; i < keys.length; i++) {
            due(call + i + ")", keys[i]);
        }
        return due(call + keys.length + ")", NONE);
    }

    /** Without the asides every later call would have answered the same. */
    void undisturbed() {
        int shelves = Integer.parseInt(replayed(all).answer("count(0)"));
        for (int shelf = 0; shelf < shelves; shelf++) {
            compare(callsThatLook(shelf));
            compare(callsThatTakeValues(shelf));
            compare(callsThatPush(shelf));
        }
        compare(callsOfTheRow());
        compare(List.of("clear()", "count(1)", "use(1)", "use(2)", "use(1)"));
    }

    private void compare(List<String> calls) {
        TextRack disturbed = replayed(all);
        TextRack calm = replayed(withoutAsides);
        for (String call : calls) {
            check.same(title + "then " + call, disturbed.answer(call), calm.answer(call));
        }
    }

    private static TextRack replayed(List<String> calls) {
        TextRack again = new TextRack();
        for (String call : calls) {
            again.answer(call);
        }
        return again;
    }

    private List<String> callsThatLook(int shelf) {
        List<String> calls = new ArrayList<>();
        for (int what = 0; what < 8; what++) {
            if (what != 5 || !missesDiffer) {
                calls.add("told(" + shelf + ", " + what + ")");
            }
        }
        int way = Integer.parseInt(replayed(all).answer("told(" + shelf + ", 0)"));
        for (int list = 0; list < LISTS_OF_WAY[way]; list++) {
            for (int i = 0; i < MOST_LOOKED_AT; i++) {
                calls.add("list(" + shelf + ", " + list + ", " + i + ")");
            }
        }
        calls.add("victim(" + shelf + ")");
        return calls;
    }

    private static List<String> callsThatTakeValues(int shelf) {
        List<String> calls = new ArrayList<>();
        for (int key = 0; key < 2 * MOST_LOOKED_AT; key++) {
            calls.add("get(" + shelf + ", " + key + ")");
        }
        calls.add("get(" + shelf + ", 511)");
        return calls;
    }

    /** What goes for new keys tells marks, counts, the hand and the target. */
    private static List<String> callsThatPush(int shelf) {
        List<String> calls = new ArrayList<>();
        for (int i = 0; i < MOST_LOOKED_AT; i++) {
            calls.add("put(" + shelf + ", " + (NEW_KEY + i) + ", 0)");
        }
        return calls;
    }

    private static List<String> callsOfTheRow() {
        List<String> calls = new ArrayList<>();
        for (int what = 0; what < 3; what++) {
            calls.add("count(" + what + ")");
        }
        for (int i = 0; i < 2 * MOST_LOOKED_AT; i++) {
            calls.add("distance(" + i + ")");
        }
        for (int capacity = 1; capacity < MOST_LOOKED_AT; capacity++) {
            calls.add("curve(" + capacity + ")");
            calls.add("optimum(" + capacity + ")");
        }
        calls.add("use(1)");
        calls.add("use(300)");
        return calls;
    }
}
