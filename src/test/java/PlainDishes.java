import java.util.ArrayDeque;
import java.util.ArrayList;
import java.util.Deque;
import java.util.List;
import java.util.TreeMap;
import java.util.TreeSet;

/** The whole document once more, by maps, lists and copies, to hold the class against. */
final class PlainDishes {
    private static final int UNKNOWN = -1, OUTSIDE = -2, STATE = -3, FULL = -4, NO = -5, NONE = -6;

    private TreeMap<Integer, Integer> errors = new TreeMap<>();
    private TreeMap<Integer, Integer> skies = new TreeMap<>();
    private final List<TreeMap<Integer, Integer>> keptErrors = new ArrayList<>(), keptSkies = new ArrayList<>();
    private final Deque<TreeMap<Integer, Integer>> log = new ArrayDeque<>();
    private final TreeSet<Integer> rulers = new TreeSet<>(), covers = new TreeSet<>();
    private int undone, phasesTold;

    PlainDishes() {
        for (int k = 0; k < 2; k++) {
            keptErrors.add(null);
            keptSkies.add(null);
        }
    }

    int put(int station) {
        if (station < 0 || station > 60) return OUTSIDE;
        if (errors.containsKey(station)) return NO;
        if (errors.size() == 12) return FULL;
        keepInLog();
        errors.put(station, 0);
        return errors.size();
    }

    int lift(int station) {
        if (!errors.containsKey(station)) return UNKNOWN;
        keepInLog();
        errors.remove(station);
        return errors.size();
    }

    int undo() {
        if (log.isEmpty()) return NO;
        errors = log.removeLast();
        undone++;
        return log.size();
    }

    int station(int i) {
        List<Integer> all = new ArrayList<>(errors.keySet());
        return i >= 0 && i < all.size() ? all.get(i) : NONE;
    }

    int spacing(int length) {
        return length < 1 || length > 60 ? OUTSIDE : often(errors.keySet())[length];
    }

    int facts(int what) {
        int[] often = often(errors.keySet());
        int span = errors.isEmpty() ? 0 : errors.lastKey() - errors.firstKey();
        int lacking = 0, leastLacking = NONE, repeats = 0, mostOften = NONE;
        for (int d = 60; d >= 1; d--) {
            if (d <= span && often[d] == 0) {
                lacking++;
                leastLacking = d;
            }
            repeats += Math.max(0, often[d] - 1);
            if (often[d] > 0 && (mostOften == NONE || often[d] >= often[mostOften])) mostOften = d;
        }
        int[] answers = {errors.size(), span, reach(errors.keySet()), lacking, repeats, leastLacking, mostOften};
        return what < 0 || what >= answers.length ? OUTSIDE : answers[what];
    }

    int ruler(int n, int what) {
        if (n < 2 || n > 7 || what < 0 || what >= 3 && what <= 9) return OUTSIDE;
        rulers.add(n);
        return PlainSearch.ofRuler(n).answer(what);
    }

    int cover(int length, int what) {
        if (length < 1 || length > 20 || what < 0 || what >= 3 && what <= 9) return OUTSIDE;
        covers.add(length);
        return PlainSearch.ofCover(length).answer(what);
    }

    int stand(int kind, int n, int by) {
        if (kind < 0 || kind > 1 || by < 0 || by > 60) return OUTSIDE;
        if ((kind == 0 ? ruler(n, 0) : cover(n, 0)) == OUTSIDE) return OUTSIDE;
        TreeMap<Integer, Integer> then = new TreeMap<>();
        for (int mark : (kind == 0 ? PlainSearch.ofRuler(n) : PlainSearch.ofCover(n)).first()) then.put(mark + by, 0);
        if (then.lastKey() > 60) return NO;
        errors = then;
        log.clear();
        return errors.size();
    }

    int error(int station, int phase) {
        if (!errors.containsKey(station)) return UNKNOWN;
        if (phase < 0 || phase > 359) return OUTSIDE;
        keepInLog();
        phasesTold++;
        return errors.put(station, phase);
    }

    int sky(int spacing, int phase) {
        if (spacing < 1 || spacing > 60 || phase < 0 || phase > 359) return OUTSIDE;
        phasesTold++;
        Integer before = skies.put(spacing, phase);
        return before == null ? 0 : before;
    }

    int phase(int one, int other) {
        if (!errors.containsKey(one) || !errors.containsKey(other)) return UNKNOWN;
        if (one == other) return NO;
        if (one > other) return (360 - phase(other, one)) % 360;
        return (skies.getOrDefault(other - one, 0) + errors.get(other) + 360 - errors.get(one)) % 360;
    }

    int closure(int one, int other, int third) {
        if (!errors.containsKey(one) || !errors.containsKey(other) || !errors.containsKey(third)) return UNKNOWN;
        if (one == other || one == third || other == third) return NO;
        return (phase(one, other) + phase(other, third) + phase(third, one)) % 360;
    }

    int left(int station) {
        if (!errors.containsKey(station)) return UNKNOWN;
        TreeSet<Integer> others = new TreeSet<>(errors.keySet());
        others.remove(station);
        return reach(others);
    }

    int missed(int i) {
        List<Integer> all = new ArrayList<>(errors.keySet());
        all.sort((a, b) -> left(a) != left(b) ? left(a) - left(b) : a - b);
        return i >= 0 && i < all.size() ? all.get(i) : NONE;
    }

    int sure() {
        return errors.isEmpty() ? 0 : left(missed(0));
    }

    int image(int k) {
        if (k != 0 && k != 1) return OUTSIDE;
        keptErrors.set(k, new TreeMap<>(errors));
        keptSkies.set(k, new TreeMap<>(skies));
        return 1;
    }

    int restore(int k) {
        if (k != 0 && k != 1) return OUTSIDE;
        if (keptErrors.get(k) == null) return STATE;
        errors = new TreeMap<>(keptErrors.get(k));
        skies = new TreeMap<>(keptSkies.get(k));
        log.clear();
        return 1;
    }

    int told(int what) {
        if (what >= 100 && what <= 160) return errors.getOrDefault(what - 100, NONE);
        if (what >= 201 && what <= 260) return skies.getOrDefault(what - 200, 0);
        int tries = 0, rulerBits = 0, coverBits = 0;
        for (int n : rulers) {
            tries += PlainSearch.ofRuler(n).tries();
            rulerBits += 1 << n;
        }
        for (int length : covers) {
            tries += PlainSearch.ofCover(length).tries();
            coverBits += 1 << length;
        }
        int[] answers = {log.size(), rulers.size() + covers.size(), tries, undone, rulerBits, coverBits, phasesTold};
        return what < 0 || what >= answers.length ? OUTSIDE : answers[what];
    }

    private void keepInLog() {
        log.addLast(new TreeMap<>(errors));
        if (log.size() > 16) log.removeFirst();
    }

    private static int[] often(Iterable<Integer> stations) {
        int[] often = new int[62];
        for (int a : stations) for (int b : stations) if (b > a) often[b - a]++;
        return often;
    }

    private static int reach(Iterable<Integer> stations) {
        int[] often = often(stations);
        int reach = 0;
        while (often[reach + 1] > 0) reach++;
        return reach;
    }
}
