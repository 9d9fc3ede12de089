import java.util.ArrayList;
import java.util.Arrays;
import java.util.HashMap;
import java.util.HashSet;
import java.util.LinkedHashMap;
import java.util.List;
import java.util.Map;
import java.util.NoSuchElementException;
import java.util.Set;

/** The document told once more, by other means: exceptions, maps and whole copies of the state. */
final class Model {
    private static final int[] NEEDED = {0, 0, 3, 2, 1, 2, 0, 2, 1, 2};

    private record Task(int rule, List<Integer> parts) {
    }

    private record Kept(int key, LinkedHashMap<Integer, Long> got, long value) {
    }

    private final Map<Integer, Long> inputs = new HashMap<>();
    private final Map<Integer, Task> tasks = new HashMap<>();
    private List<Map<Integer, Kept>> traces = List.of(new HashMap<>(), new HashMap<>());
    private List<Kept> cache = new ArrayList<>();
    private int[] counts = new int[11];

    void input(int key, long value) {
        good(key, 0, 11);
        if (inputs.containsKey(key) && inputs.get(key) == value) {
            return;
        }
        clear(key);
        inputs.put(key, value);
    }

    void task(int key, int rule, int a, int b, int c) {
        good(key, 0, 11);
        good(rule, 0, 9);
        List<Integer> parts = new ArrayList<>(Arrays.asList(a, b, c));
        while (!parts.isEmpty() && parts.get(parts.size() - 1) == -1) {
            parts.remove(parts.size() - 1);
        }
        parts.forEach(part -> good(part, 0, 11));
        good(parts.size(), NEEDED[rule], 3);
        Task task = new Task(rule, parts);
        if (!task.equals(tasks.get(key))) {
            clear(key);
            tasks.put(key, task);
        }
    }

    void remove(int key) {
        good(key, 0, 11);
        if (!inputs.containsKey(key) && !tasks.containsKey(key)) {
            throw new NoSuchElementException();
        }
        clear(key);
    }

    long build(int worker, int key) {
        good(worker, 0, 1);
        good(key, 0, 11);
        counts[5]++;
        try {
            return new Run(worker).value(key);
        } catch (RuntimeException e) {
            counts[6]++;
            throw e;
        }
    }

    int forget(int worker) {
        good(worker, 0, 1);
        int had = traces.get(worker).size();
        traces.get(worker).clear();
        return had;
    }

    int shrink(int n) {
        good(n, 0, 16);
        int gone = Math.max(0, cache.size() - n);
        cache = new ArrayList<>(cache.subList(gone, cache.size()));
        return gone;
    }

    int trace(int worker, int key, int i) {
        Kept kept = kept(worker, key, i);
        return i == -1 ? kept.got.size() : new ArrayList<>(kept.got.keySet()).get(i);
    }

    long traced(int worker, int key, int i) {
        Kept kept = kept(worker, key, i);
        return i == -1 ? kept.value : new ArrayList<>(kept.got.values()).get(i);
    }

    boolean stale(int worker, int key) {
        good(worker, 0, 1);
        good(key, 0, 11);
        List<Map<Integer, Kept>> oldTraces = traces;
        List<Kept> oldCache = cache;
        int[] oldCounts = counts;
        traces = List.of(new HashMap<>(traces.get(0)), new HashMap<>(traces.get(1)));
        cache = new ArrayList<>(cache);
        counts = counts.clone();
        try {
            new Run(worker).value(key);
            return counts[3] > oldCounts[3];
        } finally {
            traces = oldTraces;
            cache = oldCache;
            counts = oldCounts;
        }
    }

    int cached(int i) {
        if (i < 0 || i >= cache.size()) {
            throw new NoSuchElementException();
        }
        return cache.get(i).key;
    }

    int count(int what) {
        return switch (what) {
            case 7 -> cache.size();
            case 8, 9 -> traces.get(what - 8).size();
            case 0, 1, 2, 3, 4, 5, 6, 10 -> counts[what];
            default -> -1;
        };
    }

    private Kept kept(int worker, int key, int i) {
        good(worker, 0, 1);
        good(key, 0, 11);
        Kept kept = traces.get(worker).get(key);
        if (kept == null || i < -1 || i >= kept.got.size()) {
            throw new NoSuchElementException();
        }
        return kept;
    }

    private void clear(int key) {
        inputs.remove(key);
        tasks.remove(key);
        traces.forEach(map -> map.remove(key));
        cache.removeIf(entry -> entry.key == key);
    }

    private static void good(int number, int least, int most) {
        if (number < least || number > most) {
            throw new IllegalArgumentException();
        }
    }

    private final class Run {
        private final int worker;
        private final Map<Integer, Long> finished = new HashMap<>();
        private final Set<Integer> open = new HashSet<>();

        Run(int worker) {
            this.worker = worker;
        }

        long value(int key) {
            if (finished.containsKey(key)) {
                return finished.get(key);
            }
            if (!open.add(key)) {
                counts[10]++;
                throw new IllegalStateException();
            }
            long value;
            if (inputs.containsKey(key)) {
                value = inputs.get(key);
            } else if (tasks.containsKey(key)) {
                value = built(key);
            } else {
                throw new NoSuchElementException();
            }
            finished.put(key, value);
            return value;
        }

        private long built(int key) {
            Kept own = traces.get(worker).get(key);
            if (own != null && same(own)) {
                counts[1]++;
                return own.value;
            }
            List<Kept> seen = List.copyOf(cache);
            for (int i = seen.size() - 1; i >= 0; i--) {
                if (seen.get(i).key == key && same(seen.get(i))) {
                    counts[2]++;
                    traces.get(worker).put(key, seen.get(i));
                    return seen.get(i).value;
                }
            }
            return ran(key);
        }

        private boolean same(Kept kept) {
            for (Map.Entry<Integer, Long> entry : kept.got.entrySet()) {
                if (value(entry.getKey()) != entry.getValue()) {
                    return false;
                }
            }
            return true;
        }

        private long ran(int key) {
            LinkedHashMap<Integer, Long> got = new LinkedHashMap<>();
            long value;
            try {
                value = ruled(tasks.get(key).rule, tasks.get(key).parts, got);
            } catch (RuntimeException e) {
                counts[4]++;
                throw e;
            }
            counts[3]++;
            Kept kept = new Kept(key, got, value);
            traces.get(worker).put(key, kept);
            cache.add(kept);
            if (cache.size() > 16) {
                cache.remove(0);
            }
            return value;
        }

        private long ask(int key, Map<Integer, Long> got) {
            counts[0]++;
            long value = value(key);
            got.put(key, value);
            return value;
        }

        private long ruled(int rule, List<Integer> parts, Map<Integer, Long> got) {
            if (rule == 0 || rule == 1 || rule == 6) {
                return folded(rule, parts, got);
            }
            long first = ask(parts.get(0), got);
            switch (rule) {
                case 2:
                    return ask(parts.get(first > 0 ? 1 : 2), got);
                case 4:
                    return ask((int) ((first % 12 + 12) % 12), got);
                case 7:
                    long total = first;
                    for (long i = (first % 4 + 4) % 4; i > 0; i--) {
                        total += ask(parts.get(1), got);
                    }
                    return total;
                case 8:
                    return 7;
                default:
                    break;
            }
            long second = ask(parts.get(1), got);
            if (rule == 9 && first > second) {
                throw new IllegalStateException();
            }
            return rule == 9 ? first : rule == 3 ? first / second : first % second;
        }

        private long folded(int rule, List<Integer> parts, Map<Integer, Long> got) {
            List<Long> values = new ArrayList<>();
            parts.forEach(part -> values.add(ask(part, got)));
            return switch (rule) {
                case 0 -> values.stream().mapToLong(v -> v).sum();
                case 1 -> values.stream().reduce(1L, (v, w) -> v * w);
                default -> values.stream().max(Long::compare).orElseThrow();
            };
        }
    }
}
