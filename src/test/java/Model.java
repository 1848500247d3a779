import java.util.ArrayList;
import java.util.Arrays;
import java.util.HashMap;
import java.util.HashSet;
import java.util.Iterator;
import java.util.LinkedHashSet;
import java.util.List;
import java.util.Map;
import java.util.NoSuchElementException;
import java.util.Set;
import java.util.TreeMap;

/** The document's words over again, by other means than the program's: slow and plain. */
final class Model {
    final List<Cache> caches = new ArrayList<>();
    final List<Integer> row = new ArrayList<>();

    int shelf(int way, int capacity, int a, int b) {
        argument(way >= 0 && way <= 5);
        argument(capacity >= 1 && capacity <= 64);
        if (way == 4) {
            argument(a >= 1 && a <= capacity && b >= 1 && b <= 64);
        }
        if (caches.size() == 8) {
            throw new IllegalStateException();
        }
        caches.add(newCache(way, capacity, a, b));
        return caches.size() - 1;
    }

    private static Cache newCache(int way, int capacity, int a, int b) {
        Cache cache = switch (way) {
            case 0 -> new Stamped() {
                @Override void used(int key) { }
            };
            case 1 -> new Stamped() {
                @Override void used(int key) {
                    stamps.get(key)[1] = ++now;
                }
            };
            case 2 -> new Stamped() {
                @Override void used(int key) {
                    stamps.get(key)[0]++;
                    stamps.get(key)[1] = ++now;
                }
            };
            case 3 -> new Clock(capacity);
            case 4 -> new Queues(a, b);
            default -> new Lists();
        };
        cache.way = way;
        cache.capacity = capacity;
        return cache;
    }

    int get(int shelf, int key) {
        Cache cache = cache(shelf);
        argument(key >= 0 && key <= 511);
        if (!cache.get(key)) {
            throw new NoSuchElementException();
        }
        return cache.values.get(key);
    }

    int put(int shelf, int key, int value) {
        Cache cache = cache(shelf);
        argument(key >= 0 && key <= 511);
        return cache.put(key, value);
    }

    int drop(int shelf, int key) {
        int had = has(shelf, key);
        cache(shelf).values.remove(key);
        cache(shelf).forget(key);
        return had;
    }

    int has(int shelf, int key) {
        Cache cache = cache(shelf);
        argument(key >= 0 && key <= 511);
        if (cache.values.containsKey(key)) {
            return 2;
        }
        return cache.ghosts().contains(key) ? 1 : 0;
    }

    int victim(int shelf) {
        return cache(shelf).victim();
    }

    int list(int shelf, int list, int i) {
        List<List<Integer>> lists = cache(shelf).lists();
        argument(list >= 0 && list < lists.size());
        List<Integer> keys = lists.get(list);
        return i >= 0 && i < keys.size() ? keys.get(i) : -1;
    }

    int told(int shelf, int what) {
        Cache cache = cache(shelf);
        argument(what >= 0 && what <= 7);
        return new int[] {cache.way, cache.capacity, cache.values.size(), cache.ghosts().size(),
            cache.hits, cache.misses, cache.went, cache.special()}[what];
    }

    int use(int key) {
        argument(key >= 0 && key <= 511);
        if (row.size() == 300) {
            throw new IllegalStateException();
        }
        row.add(key);
        int bits = 0;
        for (int i = 0; i < caches.size(); i++) {
            if (caches.get(i).get(key)) {
                bits += 1 << i;
            } else {
                caches.get(i).put(key, row.size());
            }
        }
        return bits;
    }

    int clear() {
        int had = row.size();
        row.clear();
        return had;
    }

    int distance(int i) {
        argument(i >= 0 && i < row.size());
        int before = row.subList(0, i).lastIndexOf(row.get(i));
        return before < 0 ? -1 : new HashSet<>(row.subList(before + 1, i)).size();
    }

    int curve(int capacity) {
        argument(capacity >= 1 && capacity <= 64);
        int misses = 0;
        for (int i = 0; i < row.size(); i++) {
            int distance = distance(i);
            if (distance < 0 || distance >= capacity) {
                misses++;
            }
        }
        return misses;
    }

    /** By trying every way to let a key go, where that can be done. */
    int optimum(int capacity) {
        argument(capacity >= 1 && capacity <= 64);
        return new HashSet<>(row).size() <= 10 ? leastOfAll(capacity) : farthestGoes(capacity);
    }

    private int leastOfAll(int capacity) {
        Map<Set<Integer>, Integer> least = new HashMap<>();
        least.put(Set.of(), 0);
        for (int key : row) {
            Map<Set<Integer>, Integer> next = new HashMap<>();
            for (Map.Entry<Set<Integer>, Integer> entry : least.entrySet()) {
                Set<Integer> held = entry.getKey();
                if (held.contains(key)) {
                    next.merge(held, entry.getValue(), Math::min);
                    continue;
                }
                Set<Integer> more = new HashSet<>(held);
                more.add(key);
                int misses = entry.getValue() + 1;
                if (more.size() <= capacity) {
                    next.merge(more, misses, Math::min);
                    continue;
                }
                for (int gone : held) {
                    Set<Integer> less = new HashSet<>(more);
                    less.remove(gone);
                    next.merge(less, misses, Math::min);
                }
            }
            least = next;
        }
        return least.values().stream().min(Integer::compare).orElseThrow();
    }

    private int farthestGoes(int capacity) {
        Set<Integer> held = new HashSet<>();
        int misses = 0;
        for (int i = 0; i < row.size(); i++) {
            if (held.contains(row.get(i))) {
                continue;
            }
            misses++;
            if (held.size() == capacity) {
                List<Integer> rest = row.subList(i, row.size());
                int farthest = held.stream().max((x, y) ->
                        Integer.compare(next(rest, x), next(rest, y))).orElseThrow();
                held.remove(farthest);
            }
            held.add(row.get(i));
        }
        return misses;
    }

    private static int next(List<Integer> rest, int key) {
        return rest.contains(key) ? rest.indexOf(key) : Integer.MAX_VALUE;
    }

    int count(int what) {
        argument(what >= 0 && what <= 2);
        return new int[] {caches.size(), row.size(), new HashSet<>(row).size()}[what];
    }

    private Cache cache(int shelf) {
        argument(shelf >= 0 && shelf < caches.size());
        return caches.get(shelf);
    }

    private static void argument(boolean right) {
        if (!right) {
            throw new IllegalArgumentException();
        }
    }

    private static int takeFirst(Set<Integer> keys) {
        Iterator<Integer> all = keys.iterator();
        int first = all.next();
        all.remove();
        return first;
    }

    private static int firstOf(Set<Integer> keys) {
        return keys.iterator().next();
    }

    abstract static class Cache {
        final Map<Integer, Integer> values = new HashMap<>();
        int way;
        int capacity;
        int hits;
        int misses;
        int went;

        abstract void used(int key);

        /** Which key goes, or -1. */
        abstract int comes(int key);

        abstract void forget(int key);

        abstract int victim();

        abstract List<List<Integer>> lists();

        Set<Integer> ghosts() {
            return Set.of();
        }

        int special() {
            return 0;
        }

        boolean full() {
            return values.size() == capacity;
        }

        boolean get(int key) {
            if (!values.containsKey(key)) {
                misses++;
                return false;
            }
            hits++;
            used(key);
            return true;
        }

        int put(int key, int value) {
            int gone = -1;
            if (values.containsKey(key)) {
                used(key);
            } else {
                gone = comes(key);
            }
            if (gone != -1) {
                values.remove(gone);
                went++;
            }
            values.put(key, value);
            return gone;
        }
    }

    /** FIRST, LATELY and OFTEN: each key with a count and a time, the least of them goes. */
    abstract static class Stamped extends Cache {
        final Map<Integer, int[]> stamps = new TreeMap<>();
        int now;

        @Override int comes(int key) {
            int gone = victim();
            stamps.remove(gone);
            stamps.put(key, new int[] {1, ++now});
            return gone;
        }

        @Override void forget(int key) {
            stamps.remove(key);
        }

        @Override int victim() {
            return full() ? lists().get(0).get(0) : -1;
        }

        @Override List<List<Integer>> lists() {
            List<Integer> keys = new ArrayList<>(stamps.keySet());
            keys.sort((x, y) -> Arrays.compare(stamps.get(x), stamps.get(y)));
            return List.of(keys);
        }
    }

    static final class Clock extends Cache {
        private final List<Integer> places = new ArrayList<>();
        private final Set<Integer> marked = new HashSet<>();
        private int hand;

        Clock(int capacity) {
            for (int i = 0; i < capacity; i++) {
                places.add(-1);
            }
        }

        @Override void used(int key) {
            marked.add(key);
        }

        @Override int comes(int key) {
            if (places.contains(-1)) {
                places.set(places.indexOf(-1), key);
                return -1;
            }
            while (marked.remove(places.get(hand))) {
                hand = (hand + 1) % capacity;
            }
            int gone = places.set(hand, key);
            hand = (hand + 1) % capacity;
            return gone;
        }

        @Override void forget(int key) {
            marked.remove(key);
            places.replaceAll(k -> k == key ? -1 : k);
        }

        @Override int victim() {
            if (places.contains(-1)) {
                return -1;
            }
            for (int i = hand; i < hand + capacity; i++) {
                if (!marked.contains(places.get(i % capacity))) {
                    return places.get(i % capacity);
                }
            }
            return places.get(hand);
        }

        @Override List<List<Integer>> lists() {
            return List.of(places);
        }

        @Override int special() {
            return hand;
        }
    }

    static final class Queues extends Cache {
        private final LinkedHashSet<Integer> in = new LinkedHashSet<>();
        private final LinkedHashSet<Integer> main = new LinkedHashSet<>();
        private final LinkedHashSet<Integer> ghosts = new LinkedHashSet<>();
        private final int a;
        private final int b;

        Queues(int a, int b) {
            this.a = a;
            this.b = b;
        }

        @Override void used(int key) {
            if (main.remove(key)) {
                main.add(key);
            }
        }

        @Override int comes(int key) {
            LinkedHashSet<Integer> to = ghosts.remove(key) ? main : in;
            int gone = victim();
            if (in.remove(gone)) {
                ghosts.add(gone);
            }
            main.remove(gone);
            if (ghosts.size() > b) {
                takeFirst(ghosts);
            }
            to.add(key);
            return gone;
        }

        @Override void forget(int key) {
            in.remove(key);
            main.remove(key);
            ghosts.remove(key);
        }

        @Override int victim() {
            if (!full()) {
                return -1;
            }
            return in.size() > a || main.isEmpty() ? firstOf(in) : firstOf(main);
        }

        @Override List<List<Integer>> lists() {
            return List.of(List.copyOf(in), List.copyOf(main), List.copyOf(ghosts));
        }

        @Override Set<Integer> ghosts() {
            return ghosts;
        }
    }

    static final class Lists extends Cache {
        private final LinkedHashSet<Integer> once = new LinkedHashSet<>();
        private final LinkedHashSet<Integer> twice = new LinkedHashSet<>();
        private final LinkedHashSet<Integer> ghosts1 = new LinkedHashSet<>();
        private final LinkedHashSet<Integer> ghosts2 = new LinkedHashSet<>();
        private int t;

        @Override void used(int key) {
            once.remove(key);
            twice.remove(key);
            twice.add(key);
        }

        @Override int comes(int key) {
            int c = capacity;
            int gone = -1;
            if (ghosts1.contains(key)) {
                t = Math.min(c, t + Math.max(1, ghosts2.size() / ghosts1.size()));
                ghosts1.remove(key);
                gone = makeRoom(1);
                twice.add(key);
                return gone;
            }
            if (ghosts2.contains(key)) {
                t = Math.max(0, t - Math.max(1, ghosts1.size() / ghosts2.size()));
                ghosts2.remove(key);
                gone = makeRoom(2);
                twice.add(key);
                return gone;
            }
            int all = once.size() + twice.size() + ghosts1.size() + ghosts2.size();
            if (once.size() + ghosts1.size() == c) {
                if (once.size() < c) {
                    takeFirst(ghosts1);
                    gone = makeRoom(3);
                } else {
                    gone = takeFirst(once);
                }
            } else if (all >= c) {
                if (all == 2 * c) {
                    takeFirst(ghosts2);
                }
                gone = makeRoom(3);
            }
            once.add(key);
            return gone;
        }

        private int makeRoom(int which) {
            if (!full()) {
                return -1;
            }
            if (fromOnce(which)) {
                int gone = takeFirst(once);
                ghosts1.add(gone);
                return gone;
            }
            int gone = takeFirst(twice);
            ghosts2.add(gone);
            return gone;
        }

        private boolean fromOnce(int which) {
            boolean many = once.size() > t || (once.size() == t && which == 2);
            return (!once.isEmpty() && many) || twice.isEmpty();
        }

        @Override void forget(int key) {
            once.remove(key);
            twice.remove(key);
            ghosts1.remove(key);
            ghosts2.remove(key);
        }

        @Override int victim() {
            if (!full()) {
                return -1;
            }
            return fromOnce(3) ? firstOf(once) : firstOf(twice);
        }

        @Override List<List<Integer>> lists() {
            return List.of(List.copyOf(once), List.copyOf(twice),
                    List.copyOf(ghosts1), List.copyOf(ghosts2));
        }

        @Override Set<Integer> ghosts() {
            Set<Integer> both = new HashSet<>(ghosts1);
            both.addAll(ghosts2);
            return both;
        }

        @Override int special() {
            return t;
        }
    }
}
