import java.util.ArrayList;
import java.util.List;
import java.util.Set;
import java.util.TreeSet;

/** The SEARCHES as the document tells them, by lists and sets, to hold the class's own against. */
final class PlainSearch {
    private static final PlainSearch[] RULERS = new PlainSearch[8];
    private static final PlainSearch[] COVERS = new PlainSearch[21];

    private int size;
    private int tries;
    private final List<List<Integer>> all = new ArrayList<>();

    private PlainSearch() {
    }

    static PlainSearch ofRuler(int n) {
        if (RULERS[n] == null) {
            PlainSearch s = new PlainSearch();
            for (s.size = n * (n - 1) / 2; s.all.isEmpty(); s.size++) s.rulers(n, s.size, new ArrayList<>(List.of(0)));
            s.size--;
            RULERS[n] = s;
        }
        return RULERS[n];
    }

    static PlainSearch ofCover(int length) {
        if (COVERS[length] == null) {
            PlainSearch s = new PlainSearch();
            int m = 2;
            while (m * (m - 1) / 2 < length) m++;
            for (s.size = m; s.all.isEmpty(); s.size++) s.covers(length, s.size, new ArrayList<>());
            s.size--;
            COVERS[length] = s;
        }
        return COVERS[length];
    }

    int tries() {
        return tries;
    }

    List<Integer> first() {
        return all.get(0);
    }

    int answer(int what) {
        if (what == 0) return size;
        if (what == 1) return all.size();
        if (what == 2) return tries;
        return what - 10 < first().size() ? first().get(what - 10) : SparseDishes.NONE;
    }

    private void rulers(int n, int end, List<Integer> marks) {
        if (marks.size() == n) {
            all.add(new ArrayList<>(marks));
            return;
        }
        int last = marks.get(marks.size() - 1);
        int r = n - marks.size() - 1;
        for (int mark = last + 1; mark <= end - r * (r + 1) / 2; mark++) {
            if (r == 0 && mark < end) continue;
            tries++;
            marks.add(mark);
            if (noneAlike(marks)) rulers(n, end, marks);
            marks.remove(marks.size() - 1);
        }
    }

    private static boolean noneAlike(List<Integer> marks) {
        Set<Integer> there = new TreeSet<>();
        for (int a = 0; a < marks.size(); a++) {
            for (int b = a + 1; b < marks.size(); b++) {
                if (!there.add(marks.get(b) - marks.get(a))) return false;
            }
        }
        return true;
    }

    private void covers(int length, int m, List<Integer> between) {
        int r = m - 2 - between.size();
        if (r == 0) {
            if (lack(length, between) == 0) all.add(withEnds(length, between));
            return;
        }
        int last = between.isEmpty() ? 0 : between.get(between.size() - 1);
        for (int mark = last + 1; mark <= length - 1; mark++) {
            tries++;
            between.add(mark);
            int toCome = r - 1;
            int now = 2 + between.size();
            if (lack(length, between) <= toCome * now + toCome * (toCome - 1) / 2) covers(length, m, between);
            between.remove(between.size() - 1);
        }
    }

    private static int lack(int length, List<Integer> between) {
        Set<Integer> there = new TreeSet<>();
        List<Integer> marks = withEnds(length, between);
        for (int a : marks) for (int b : marks) if (b > a) there.add(b - a);
        return length - there.size();
    }

    private static List<Integer> withEnds(int length, List<Integer> between) {
        List<Integer> marks = new ArrayList<>(between);
        marks.add(0, 0);
        marks.add(length);
        return marks;
    }
}
