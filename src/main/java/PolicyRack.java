import java.util.ArrayList;
import java.util.NoSuchElementException;

/** A rack of caches that share one row of uses; ../shared/DOC.md has the promises. */
public final class PolicyRack {
    public static final int NONE = -1;

    private static final int KEYS = 512;
    private static final int MOST_CAPACITY = 64;
    private static final int MOST_GHOSTS = 64;
    private static final int MOST_SHELVES = 8;
    private static final int MOST_USES = 300;

    private static final int FIRST = 0;
    private static final int LATELY = 1;
    private static final int OFTEN = 2;
    private static final int CLOCK = 3;
    private static final int QUEUES = 4;
    private static final int LISTS = 5;

    private static final int ABSENT = 0;
    private static final int GHOST = 1;
    private static final int HELD = 2;

    private final ArrayList<Shelf> shelves;
    private final Uses uses;

    public PolicyRack() {
        shelves = new ArrayList<>();
        uses = new Uses();
    }

    public int shelf(int way, int capacity, int a, int b)
            throws IllegalArgumentException, IllegalStateException {
        if (way < FIRST || way > LISTS) {
            throw new IllegalArgumentException("no such way");
        }
        requireCapacity(capacity);
        if (way == QUEUES && (a < 1 || a > capacity || b < 1 || b > MOST_GHOSTS)) {
            throw new IllegalArgumentException("no such queues");
        }
        if (shelves.size() >= MOST_SHELVES) {
            throw new IllegalStateException("the rack is full");
        }
        shelves.add(newShelf(way, capacity, a, b));
        return shelves.size() - 1;
    }

    public int get(int shelf, int key) throws IllegalArgumentException, NoSuchElementException {
        Shelf asked = shelfFor(shelf, key);
        if (!asked.lookUp(key)) {
            throw new NoSuchElementException("a miss");
        }
        return asked.valueOf(key);
    }

    public int put(int shelf, int key, int value) throws IllegalArgumentException {
        return shelfFor(shelf, key).store(key, value);
    }

    public int drop(int shelf, int key) throws IllegalArgumentException {
        return shelfFor(shelf, key).takeOut(key);
    }

    public int has(int shelf, int key) throws IllegalArgumentException {
        return shelfFor(shelf, key).stateOf(key);
    }

    public int victim(int shelf) throws IllegalArgumentException {
        return shelfAt(shelf).nextToGo();
    }

    public int list(int shelf, int list, int i) throws IllegalArgumentException {
        Shelf asked = shelfAt(shelf);
        if (list < 0 || list >= asked.lists()) {
            throw new IllegalArgumentException("no such list");
        }
        return asked.keyAt(list, i);
    }

    public int told(int shelf, int what) throws IllegalArgumentException {
        Shelf asked = shelfAt(shelf);
        switch (what) {
            case 0: return asked.way;
            case 1: return asked.capacity;
            case 2: return asked.held;
            case 3: return asked.ghosts();
            case 4: return asked.hits;
            case 5: return asked.misses;
            case 6: return asked.gone;
            case 7: return asked.handOrTarget();
            default: throw new IllegalArgumentException("no such number");
        }
    }

    public int use(int key) throws IllegalArgumentException, IllegalStateException {
        requireKey(key);
        if (uses.isFull()) {
            throw new IllegalStateException("the row is full");
        }
        uses.add(key);
        int hits = 0;
        for (int i = 0; i < shelves.size(); i++) {
            Shelf asked = shelves.get(i);
            if (asked.lookUp(key)) {
                hits |= 1 << i;
            } else {
                asked.store(key, uses.size());
            }
        }
        return hits;
    }

    public int clear() {
        int before = uses.size();
        uses.empty();
        return before;
    }

    public int distance(int i) throws IllegalArgumentException {
        if (i < 0 || i >= uses.size()) {
            throw new IllegalArgumentException("no such use");
        }
        return uses.distanceAt(i);
    }

    public int curve(int capacity) throws IllegalArgumentException {
        requireCapacity(capacity);
        return uses.missesLately(capacity);
    }

    public int optimum(int capacity) throws IllegalArgumentException {
        requireCapacity(capacity);
        return uses.leastMisses(capacity);
    }

    public int count(int what) throws IllegalArgumentException {
        switch (what) {
            case 0: return shelves.size();
            case 1: return uses.size();
            case 2: return uses.differentKeys();
            default: throw new IllegalArgumentException("no such number");
        }
    }

    private static void requireCapacity(int capacity) {
        if (capacity < 1 || capacity > MOST_CAPACITY) {
            throw new IllegalArgumentException("no such capacity");
        }
    }

    private static void requireKey(int key) {
        if (key < 0 || key >= KEYS) {
            throw new IllegalArgumentException("no such key");
        }
    }

    private Shelf shelfAt(int shelf) {
        if (shelf < 0 || shelf >= shelves.size()) {
            throw new IllegalArgumentException("no such shelf");
        }
        return shelves.get(shelf);
    }

    private Shelf shelfFor(int shelf, int key) {
        Shelf asked = shelfAt(shelf);
        requireKey(key);
        return asked;
    }

    private static Shelf newShelf(int way, int capacity, int a, int b) {
        switch (way) {
            case LATELY: return new LatelyShelf(capacity);
            case OFTEN: return new OftenShelf(capacity);
            case CLOCK: return new ClockShelf(capacity);
            case QUEUES: return new QueuesShelf(capacity, a, b);
            case LISTS: return new ListsShelf(capacity);
            default: return new FirstShelf(capacity);
        }
    }

    /** Different keys in an order, the first to go in front. */
    private static final class KeyRow {
        private final int[] keys;
        private int size;

        KeyRow(int most) {
            keys = new int[most];
        }

        int size() {
            return size;
        }

        int at(int i) {
            return i < 0 || i >= size ? NONE : keys[i];
        }

        boolean contains(int key) {
            return indexOf(key) != NONE;
        }

        void addLast(int key) {
            if (size < keys.length) {
                keys[size] = key;
                size++;
            }
        }

        void insert(int i, int key) {
            if (i < 0 || i > size || size >= keys.length) {
                return;
            }
            System.arraycopy(keys, i, keys, i + 1, size - i);
            keys[i] = key;
            size++;
        }

        boolean remove(int key) {
            return removeAt(indexOf(key)) != NONE;
        }

        int removeFirst() {
            return removeAt(0);
        }

        private int removeAt(int i) {
            if (i < 0 || i >= size) {
                return NONE;
            }
            int key = keys[i];
            System.arraycopy(keys, i + 1, keys, i, size - i - 1);
            size--;
            return key;
        }

        private int indexOf(int key) {
            for (int i = 0; i < size; i++) {
                if (keys[i] == key) {
                    return i;
                }
            }
            return NONE;
        }
    }

    /** What all ways have in common: values and numbers; a way says which key goes. */
    private abstract static class Shelf {
        final int way;
        final int capacity;
        int hits;
        int misses;
        int gone;
        int held;
        private final int[] values;

        Shelf(int way, int capacity) {
            this.way = way;
            this.capacity = capacity;
            values = new int[KEYS];
        }

        abstract boolean holds(int key);

        abstract boolean remembers(int key);

        abstract void touch(int key);

        /** Takes in a key that is not held: the key that goes for it, or NONE. */
        abstract int admit(int key);

        abstract void remove(int key);

        abstract int nextToGo();

        abstract int lists();

        abstract int keyAt(int list, int i);

        abstract int ghosts();

        int handOrTarget() {
            return 0;
        }

        final boolean isFull() {
            return held >= capacity;
        }

        final int valueOf(int key) {
            return values[key];
        }

        final int stateOf(int key) {
            if (holds(key)) {
                return HELD;
            }
            return remembers(key) ? GHOST : ABSENT;
        }

        final boolean lookUp(int key) {
            if (!holds(key)) {
                misses++;
                return false;
            }
            hits++;
            touch(key);
            return true;
        }

        final int store(int key, int value) {
            values[key] = value;
            if (holds(key)) {
                touch(key);
                return NONE;
            }
            int leaver = admit(key);
            if (leaver == NONE) {
                held++;
            } else {
                gone++;
            }
            return leaver;
        }

        final int takeOut(int key) {
            int state = stateOf(key);
            if (state == HELD) {
                held--;
            }
            remove(key);
            return state;
        }
    }

    /** A shelf whose lists are rows of keys: those that it holds, behind them its ghosts. */
    private abstract static class RowsShelf extends Shelf {
        final KeyRow[] rows;
        private final int heldRows;

        RowsShelf(int way, int capacity, KeyRow[] rows, int heldRows) {
            super(way, capacity);
            this.rows = rows;
            this.heldRows = heldRows;
        }

        final boolean holds(int key) {
            return isIn(0, heldRows, key);
        }

        final boolean remembers(int key) {
            return isIn(heldRows, rows.length, key);
        }

        final void remove(int key) {
            for (KeyRow row : rows) {
                row.remove(key);
            }
        }

        final int lists() {
            return rows.length;
        }

        final int keyAt(int list, int i) {
            return list < 0 || list >= rows.length ? NONE : rows[list].at(i);
        }

        final int ghosts() {
            int size = 0;
            for (int i = heldRows; i < rows.length; i++) {
                size += rows[i].size();
            }
            return size;
        }

        private boolean isIn(int from, int to, int key) {
            for (int i = from; i < to; i++) {
                if (rows[i].contains(key)) {
                    return true;
                }
            }
            return false;
        }
    }

    /** One row: the first key in it goes. */
    private abstract static class OneRowShelf extends RowsShelf {
        final KeyRow row;

        OneRowShelf(int way, int capacity) {
            super(way, capacity, new KeyRow[] {new KeyRow(capacity)}, 1);
            row = rows[0];
        }

        /** Puts a new key where it belongs in the row. */
        void enter(int key) {
            row.addLast(key);
        }

        final int admit(int key) {
            int leaver = isFull() ? row.removeFirst() : NONE;
            enter(key);
            return leaver;
        }

        final int nextToGo() {
            return isFull() ? row.at(0) : NONE;
        }
    }

    private static final class FirstShelf extends OneRowShelf {
        FirstShelf(int capacity) {
            super(FIRST, capacity);
        }

        void touch(int key) {
            // the order of coming is all that counts here
        }
    }

    private static final class LatelyShelf extends OneRowShelf {
        LatelyShelf(int capacity) {
            super(LATELY, capacity);
        }

        void touch(int key) {
            row.remove(key);
            row.addLast(key);
        }
    }

    private static final class OftenShelf extends OneRowShelf {
        private final int[] counts;

        OftenShelf(int capacity) {
            super(OFTEN, capacity);
            counts = new int[KEYS];
        }

        void enter(int key) {
            counts[key] = 1;
            insertByCount(key);
        }

        void touch(int key) {
            row.remove(key);
            counts[key]++;
            insertByCount(key);
        }

        // behind its equals: of several with one count the latest goes last
        private void insertByCount(int key) {
            int i = row.size();
            while (i > 0 && counts[row.at(i - 1)] > counts[key]) {
                i--;
            }
            row.insert(i, key);
        }
    }

    private static final class ClockShelf extends Shelf {
        private final int[] places;
        private final boolean[] marks;
        private int hand;

        ClockShelf(int capacity) {
            super(CLOCK, capacity);
            places = new int[capacity];
            marks = new boolean[capacity];
            for (int i = 0; i < capacity; i++) {
                places[i] = NONE;
            }
        }

        boolean holds(int key) {
            return placeOf(key) != NONE;
        }

        boolean remembers(int key) {
            return false;
        }

        void touch(int key) {
            int place = placeOf(key);
            if (place != NONE) {
                marks[place] = true;
            }
        }

        int admit(int key) {
            int free = placeOf(NONE);
            if (free != NONE) {
                seat(key, free);
                return NONE;
            }
            clearMarksOnTheWay();
            int leaver = places[hand];
            seat(key, hand);
            hand = placeBehind(hand);
            return leaver;
        }

        void remove(int key) {
            int place = placeOf(key);
            if (place != NONE) {
                seat(NONE, place);
            }
        }

        int nextToGo() {
            if (!isFull()) {
                return NONE;
            }
            int place = hand;
            for (int step = 0; step < capacity && marks[place]; step++) {
                place = placeBehind(place);
            }
            return places[place];
        }

        int lists() {
            return 1;
        }

        int keyAt(int list, int i) {
            return i < 0 || i >= capacity ? NONE : places[i];
        }

        int ghosts() {
            return 0;
        }

        int handOrTarget() {
            return hand;
        }

        // one turn is enough: behind it no place has a mark
        private void clearMarksOnTheWay() {
            for (int step = 0; step < capacity && marks[hand]; step++) {
                marks[hand] = false;
                hand = placeBehind(hand);
            }
        }

        private void seat(int key, int place) {
            places[place] = key;
            marks[place] = false;
        }

        private int placeBehind(int place) {
            return place + 1 < capacity ? place + 1 : 0;
        }

        private int placeOf(int key) {
            for (int i = 0; i < capacity; i++) {
                if (places[i] == key) {
                    return i;
                }
            }
            return NONE;
        }
    }

    private static final class QueuesShelf extends RowsShelf {
        private final KeyRow in;
        private final KeyRow main;
        private final KeyRow ghostRow;
        private final int inShare;
        private final int mostGhosts;

        QueuesShelf(int capacity, int a, int b) {
            super(QUEUES, capacity, new KeyRow[] {
                new KeyRow(capacity), new KeyRow(capacity), new KeyRow(b)}, 2);
            in = rows[0];
            main = rows[1];
            ghostRow = rows[2];
            inShare = a;
            mostGhosts = b;
        }

        void touch(int key) {
            if (main.remove(key)) {
                main.addLast(key);
            }
        }

        int admit(int key) {
            // before room is made, which might forget this very ghost
            boolean cameBefore = ghostRow.remove(key);
            int leaver = makeRoom();
            if (cameBefore) {
                main.addLast(key);
            } else {
                in.addLast(key);
            }
            return leaver;
        }

        int nextToGo() {
            if (!isFull()) {
                return NONE;
            }
            return inGives() ? in.at(0) : main.at(0);
        }

        private boolean inGives() {
            return in.size() > inShare || main.size() == 0;
        }

        private int makeRoom() {
            if (!isFull()) {
                return NONE;
            }
            if (!inGives()) {
                return main.removeFirst();
            }
            int leaver = in.removeFirst();
            if (ghostRow.size() >= mostGhosts) {
                ghostRow.removeFirst();
            }
            ghostRow.addLast(leaver);
            return leaver;
        }
    }

    private static final class ListsShelf extends RowsShelf {
        private final KeyRow once;
        private final KeyRow twice;
        private final KeyRow onceGhosts;
        private final KeyRow twiceGhosts;
        private int target;

        ListsShelf(int capacity) {
            // a ghost more comes only while c keys are held and all are below 2 c,
            // so the ghosts of both are never more than c
            super(LISTS, capacity, new KeyRow[] {
                new KeyRow(capacity), new KeyRow(capacity),
                new KeyRow(capacity), new KeyRow(capacity)}, 2);
            once = rows[0];
            twice = rows[1];
            onceGhosts = rows[2];
            twiceGhosts = rows[3];
        }

        void touch(int key) {
            once.remove(key);
            twice.remove(key);
            twice.addLast(key);
        }

        int admit(int key) {
            if (onceGhosts.contains(key)) {
                target = Math.min(capacity, target + targetStep(twiceGhosts, onceGhosts));
                return bringBack(key, onceGhosts, false);
            }
            if (twiceGhosts.contains(key)) {
                target = Math.max(0, target - targetStep(onceGhosts, twiceGhosts));
                return bringBack(key, twiceGhosts, true);
            }
            if (once.size() >= capacity) {
                return replaceFirstOfOnce(key);
            }
            forgetForNew();
            int leaver = makeRoom(false);
            once.addLast(key);
            return leaver;
        }

        int nextToGo() {
            if (!isFull()) {
                return NONE;
            }
            return onceGives(false) ? once.at(0) : twice.at(0);
        }

        int handOrTarget() {
            return target;
        }

        private static int targetStep(KeyRow others, KeyRow own) {
            return own.size() == 0 ? 1 : Math.max(1, others.size() / own.size());
        }

        private int bringBack(int key, KeyRow from, boolean fromTwice) {
            from.remove(key);
            int leaver = makeRoom(fromTwice);
            twice.addLast(key);
            return leaver;
        }

        // no ghost of it: ONCE and its ghosts together may be c at most
        private int replaceFirstOfOnce(int key) {
            int leaver = once.removeFirst();
            once.addLast(key);
            return leaver;
        }

        private void forgetForNew() {
            if (once.size() + onceGhosts.size() >= capacity) {
                onceGhosts.removeFirst();
            } else if (held + ghosts() >= 2 * capacity) {
                twiceGhosts.removeFirst();
            }
        }

        private int makeRoom(boolean forTwiceGhost) {
            if (!isFull()) {
                return NONE;
            }
            boolean fromOnce = onceGives(forTwiceGhost);
            int leaver = fromOnce ? once.removeFirst() : twice.removeFirst();
            KeyRow ghostRow = fromOnce ? onceGhosts : twiceGhosts;
            ghostRow.addLast(leaver);
            return leaver;
        }

        private boolean onceGives(boolean forTwiceGhost) {
            if (once.size() == 0 || twice.size() == 0) {
                return twice.size() == 0;
            }
            return once.size() > target || (forTwiceGhost && once.size() == target);
        }
    }

    /** The row of uses. */
    private static final class Uses {
        // behind every use of a row, so that it counts as the farthest one
        private static final int NEVER = MOST_USES;

        private final int[] distances;
        private final int[] nextUses;
        private final int[] lastUses;
        private final int[] heldUntil;
        private int size;
        private int different;

        Uses() {
            distances = new int[MOST_USES];
            nextUses = new int[MOST_USES];
            lastUses = new int[KEYS];
            heldUntil = new int[MOST_CAPACITY];
            for (int key = 0; key < KEYS; key++) {
                lastUses[key] = NONE;
            }
        }

        int size() {
            return size;
        }

        boolean isFull() {
            return size >= MOST_USES;
        }

        int differentKeys() {
            return different;
        }

        int distanceAt(int i) {
            return distances[i];
        }

        void empty() {
            size = 0;
            different = 0;
            for (int key = 0; key < KEYS; key++) {
                lastUses[key] = NONE;
            }
        }

        void add(int key) {
            int before = lastUses[key];
            if (before == NONE) {
                distances[size] = NONE;
                different++;
            } else {
                distances[size] = differentSince(before);
                nextUses[before] = size;
            }
            nextUses[size] = NEVER;
            lastUses[key] = size;
            size++;
        }

        int missesLately(int capacity) {
            int misses = 0;
            for (int i = 0; i < size; i++) {
                if (distances[i] == NONE || distances[i] >= capacity) {
                    misses++;
                }
            }
            return misses;
        }

        // the key whose next use is farthest goes; a held key is known by its next use alone
        int leastMisses(int capacity) {
            int misses = 0;
            int held = 0;
            for (int i = 0; i < size; i++) {
                int place = placeOf(i, held);
                if (place == NONE) {
                    misses++;
                    place = held < capacity ? held : placeOfFarthest(held);
                    held = Math.min(capacity, held + 1);
                }
                heldUntil[place] = nextUses[i];
            }
            return misses;
        }

        // a key that was used since is counted at its last use, which has none behind it yet
        private int differentSince(int before) {
            int found = 0;
            for (int i = before + 1; i < size; i++) {
                if (nextUses[i] == NEVER) {
                    found++;
                }
            }
            return found;
        }

        private int placeOf(int use, int held) {
            for (int i = 0; i < held; i++) {
                if (heldUntil[i] == use) {
                    return i;
                }
            }
            return NONE;
        }

        private int placeOfFarthest(int held) {
            int farthest = 0;
            for (int i = 1; i < held; i++) {
                if (heldUntil[i] > heldUntil[farthest]) {
                    farthest = i;
                }
            }
            return farthest;
        }
    }
}
