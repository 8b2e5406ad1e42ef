import java.util.ArrayDeque;
import java.util.ArrayList;
import java.util.Deque;
import java.util.HashMap;
import java.util.List;
import java.util.Map;
import java.util.NoSuchElementException;
import java.util.TreeSet;

/**
 * The document a second time, in its plainest and slowest form, to compare the class with.
 * It shares no way of computing with the class: sums cell by cell, sets, copies of all.
 */
final class Model {
    static final int BRUTE_LENGTH = 13;

    private static final class Data implements Cloneable {
        int[] limits, gradients;
        boolean[] barred, required;
        TreeSet<Integer> posts = new TreeSet<>();
        int length = 60, rate = 80, reaction = 20, train = 4;
        int aspects = 3, minimum = 4, maximum = 40, sighting = 6, overlap = 1;

        Data copy() {
            try {
                Data copy = (Data) clone();
                copy.limits = limits.clone();
                copy.gradients = gradients.clone();
                copy.barred = barred.clone();
                copy.required = required.clone();
                copy.posts = new TreeSet<>(posts);
                return copy;
            } catch (CloneNotSupportedException e) {
                throw new AssertionError(e);
            }
        }
    }

    private Data d = new Data();
    private final Deque<Data> undo = new ArrayDeque<>();

    Model() {
        newLine(60);
    }

    int length() {
        return d.length;
    }

    private void newLine(int cells) {
        d.length = cells;
        d.limits = new int[cells];
        d.gradients = new int[cells];
        d.barred = new boolean[cells + 1];
        d.required = new boolean[cells + 1];
        d.posts = new TreeSet<>();
        java.util.Arrays.fill(d.limits, 80);
    }

    private void save() {
        undo.addFirst(d.copy());
        while (undo.size() > 4) {
            undo.removeLast();
        }
    }

    private static void argument(boolean holds) {
        if (!holds) {
            throw new IllegalArgumentException();
        }
    }

    private static void index(boolean holds) {
        if (!holds) {
            throw new IndexOutOfBoundsException();
        }
    }

    private static void state(boolean holds) {
        if (!holds) {
            throw new IllegalStateException();
        }
    }

    private boolean cell(int c) {
        return 0 <= c && c <= d.length - 1;
    }

    private boolean position(int p) {
        return 0 <= p && p <= d.length;
    }

    int setLength(int cells) {
        argument(10 <= cells && cells <= 120);
        save();
        int old = d.length;
        newLine(cells);
        return old;
    }

    int setLimit(int from, int to, int speed) {
        argument(cell(from) && cell(to) && from <= to && 20 <= speed && speed <= 160);
        save();
        int n = 0;
        for (int c = from; c <= to; c++) {
            n += d.limits[c] != speed ? 1 : 0;
            d.limits[c] = speed;
        }
        return n;
    }

    int setGradient(int from, int to, int gradient) {
        argument(cell(from) && cell(to) && from <= to && -40 <= gradient && gradient <= 40);
        save();
        int n = 0;
        for (int c = from; c <= to; c++) {
            n += d.gradients[c] != gradient ? 1 : 0;
            d.gradients[c] = gradient;
        }
        return n;
    }

    int setBarred(int from, int to, boolean barred) {
        argument(position(from) && position(to) && from <= to);
        save();
        for (int p = from; p <= to; p++) {
            d.barred[p] = barred;
        }
        int n = 0;
        for (boolean b : d.barred) {
            n += b ? 1 : 0;
        }
        return n;
    }

    boolean setRequired(int p, boolean required) {
        argument(position(p));
        save();
        boolean old = d.required[p];
        d.required[p] = required;
        return old;
    }

    int setTrain(int rate, int reaction, int length) {
        argument(50 <= rate && rate <= 200 && 0 <= reaction && reaction <= 100 && 1 <= length && length <= 20);
        save();
        int old = d.rate;
        d.rate = rate;
        d.reaction = reaction;
        d.train = length;
        return old;
    }

    int setRules(int aspects, int minimum, int maximum) {
        argument(2 <= aspects && aspects <= 4 && 1 <= minimum && minimum <= maximum && 1 <= maximum && maximum <= 120);
        save();
        int old = d.aspects;
        d.aspects = aspects;
        d.minimum = minimum;
        d.maximum = maximum;
        return old;
    }

    int setSight(int sighting, int overlap) {
        argument(0 <= sighting && sighting <= 40 && 0 <= overlap && overlap <= 20);
        save();
        int old = d.sighting;
        d.sighting = sighting;
        d.overlap = overlap;
        return old;
    }

    int limit(int c) {
        index(cell(c));
        return d.limits[c];
    }

    int gradient(int c) {
        index(cell(c));
        return d.gradients[c];
    }

    boolean isBarred(int p) {
        index(position(p));
        return d.barred[p];
    }

    private long lost(int c) {
        return 162L * (10 * d.rate + 10 * d.gradients[c >= d.length ? d.length - 1 : c]);
    }

    /** Unrolled: the least over all cells c from x on of 125 * limit(c)^2 + what is lost from x to c. */
    long energy(int x) {
        index(position(x));
        if (x == d.length) {
            return 125L * d.limits[x - 1] * d.limits[x - 1];
        }
        long least = Long.MAX_VALUE;
        long sum = 0;
        for (int c = x; c < d.length; c++) {
            least = Math.min(least, 125L * d.limits[c] * d.limits[c] + sum);
            sum += lost(c);
        }
        return Math.min(least, 125L * d.limits[d.length - 1] * d.limits[d.length - 1] + sum);
    }

    int profileSpeed(int x) {
        index(position(x));
        long e = energy(x);
        int v = 0;
        while (125L * (v + 1) * (v + 1) <= e) {
            v++;
        }
        return v;
    }

    int brakingDistance(int x) {
        index(position(x));
        int r = 0;
        while (r * 1800 < profileSpeed(x) * d.reaction) {
            r++;
        }
        long left = energy(x);
        int n = 0;
        while (left > 0) {
            left -= lost(x + r + n);
            n++;
        }
        return r + n;
    }

    int travelTime(int from, int to) {
        argument(position(from) && position(to) && from <= to);
        int sum = 0;
        for (int c = from; c < to; c++) {
            int v = profileSpeed(c);
            sum += 180000 / v + (180000 % v == 0 ? 0 : 1);
        }
        return sum;
    }

    int addPost(int p) {
        argument(position(p));
        state(!d.posts.contains(p));
        save();
        d.posts.add(p);
        return d.posts.headSet(p).size();
    }

    int removePost(int p) {
        argument(position(p));
        state(d.posts.contains(p));
        save();
        d.posts.remove(p);
        return d.posts.size();
    }

    int clearPosts() {
        save();
        int n = d.posts.size();
        d.posts.clear();
        return n;
    }

    int posts() {
        return d.posts.size();
    }

    int post(int i) {
        index(0 <= i && i < d.posts.size());
        return new ArrayList<>(d.posts).get(i);
    }

    int violationCount() {
        return violations(new ArrayList<>(d.posts)).size();
    }

    int violation(int i) {
        List<int[]> all = violations(new ArrayList<>(d.posts));
        index(0 <= i && i < all.size());
        return 1000 * all.get(i)[1] + all.get(i)[0];
    }

    /** Pairs of position and kind, by position and then by kind. */
    private List<int[]> violations(List<Integer> p) {
        List<int[]> all = new ArrayList<>();
        int m = p.size() - 1;
        for (int x : p) {
            if (d.barred[x]) {
                all.add(new int[] {x, 1});
            }
        }
        for (int x = 0; x <= d.length; x++) {
            if ((d.required[x] || x == 0 || x == d.length) && !p.contains(x)) {
                all.add(new int[] {x, 2});
            }
        }
        for (int i = 0; i + 1 <= m; i++) {
            int gap = p.get(i + 1) - p.get(i);
            if (gap < d.minimum) {
                all.add(new int[] {p.get(i + 1), 3});
            }
            if (gap > d.maximum) {
                all.add(new int[] {p.get(i + 1), 4});
            }
        }
        int k = d.aspects;
        for (int i = 0; i <= m; i++) {
            boolean isBlind = k == 2 && i >= 1 && blind(p.get(i));
            boolean isShort = k != 2 && i + k - 2 <= m && p.get(i + k - 2) - p.get(i) < braking(p.get(i));
            if (isBlind || isShort) {
                all.add(new int[] {p.get(i), 5});
            }
        }
        all.sort((a, b) -> a[0] != b[0] ? a[0] - b[0] : a[1] - b[1]);
        return all;
    }

    private boolean blind(int x) {
        int s = Math.max(0, x - d.sighting);
        return braking(s) > x - s;
    }

    private final Map<Integer, Integer> brakingOfNow = new HashMap<>();

    private int braking(int x) {
        return brakingOfNow.computeIfAbsent(x, this::brakingDistance);
    }

    /** To be called after each change of the line or the train. */
    void forget() {
        brakingOfNow.clear();
    }

    int fewestPosts() {
        List<Integer> best = best();
        return best == null ? -1 : best.size();
    }

    int design() {
        List<Integer> best = best();
        state(best != null);
        save();
        d.posts = new TreeSet<>(best);
        return best.size();
    }

    private List<Integer> best() {
        List<Integer> best = bestByLayers();
        if (d.length <= BRUTE_LENGTH && !java.util.Objects.equals(best, bestByForce())) {
            throw new AssertionError("the model is at odds with itself: " + best + " and " + bestByForce());
        }
        if (best != null && !violations(best).isEmpty()) {
            throw new AssertionError("the model's layout is not valid: " + best);
        }
        return best;
    }

    private List<Integer> bestByForce() {
        List<Integer> best = null;
        for (int set = 0; set < 1 << (d.length - 1); set++) {
            List<Integer> p = new ArrayList<>();
            p.add(0);
            for (int x = 1; x < d.length; x++) {
                if ((set >> (x - 1) & 1) == 1) {
                    p.add(x);
                }
            }
            p.add(d.length);
            if ((best == null || isBefore(p, best)) && violations(p).isEmpty()) {
                best = p;
            }
        }
        return best;
    }

    private static boolean isBefore(List<Integer> a, List<Integer> b) {
        if (a.size() != b.size()) {
            return a.size() < b.size();
        }
        for (int i = 0; i < a.size(); i++) {
            if (!a.get(i).equals(b.get(i))) {
                return a.get(i) < b.get(i);
            }
        }
        return false;
    }

    /** Forwards: of all beginnings with the same last two posts and the same number, the first one. */
    private List<Integer> bestByLayers() {
        if (d.barred[0]) {
            return null;
        }
        Map<Integer, List<Integer>> layer = new HashMap<>();
        layer.put(0, List.of(0));
        while (!layer.isEmpty()) {
            Map<Integer, List<Integer>> longer = new HashMap<>();
            List<Integer> best = null;
            for (List<Integer> p : layer.values()) {
                for (int x = p.get(p.size() - 1) + 1; x <= d.length; x++) {
                    if (!mayFollow(p, x)) {
                        continue;
                    }
                    List<Integer> q = new ArrayList<>(p);
                    q.add(x);
                    List<Integer> old = longer.get(1000 * p.get(p.size() - 1) + x);
                    if (old == null || isBefore(q, old)) {
                        longer.put(1000 * p.get(p.size() - 1) + x, q);
                    }
                    if (x == d.length && (best == null || isBefore(q, best))) {
                        best = q;
                    }
                }
            }
            if (best != null) {
                return best;
            }
            layer = longer;
        }
        return null;
    }

    private boolean mayFollow(List<Integer> p, int x) {
        int last = p.get(p.size() - 1);
        if (d.barred[x] || x - last < d.minimum || x - last > d.maximum) {
            return false;
        }
        for (int between = last + 1; between < x; between++) {
            if (d.required[between]) {
                return false;
            }
        }
        switch (d.aspects) {
            case 2:
                return !blind(x);
            case 3:
                return x - last >= braking(last);
            default:
                return p.size() < 2 || x - p.get(p.size() - 2) >= braking(p.get(p.size() - 2));
        }
    }

    int blockTime(int i) {
        index(0 <= i && i < d.posts.size());
        if (i + d.aspects - 1 > d.posts.size() - 1) {
            return -1;
        }
        return travelTime(Math.max(0, post(i) - d.sighting),
            Math.min(d.length, post(i + d.aspects - 1) + d.overlap + d.train));
    }

    int headway() {
        int greatest = -1;
        for (int i = 0; i < posts(); i++) {
            greatest = Math.max(greatest, blockTime(i));
        }
        return greatest;
    }

    int capacity() {
        state(headway() != -1);
        return 3600000 / headway();
    }

    int undo() {
        try {
            d = undo.removeFirst();
        } catch (NoSuchElementException e) {
            throw new IllegalStateException(e);
        }
        return undo.size();
    }

    long digest() {
        List<Long> values = new ArrayList<>();
        for (int v : new int[] {undo.size(), d.length, d.rate, d.reaction, d.train, d.aspects, d.minimum, d.maximum,
            d.sighting, d.overlap}) {
            values.add((long) v);
        }
        for (int c = 0; c < d.length; c++) {
            values.add((long) d.limits[c]);
            values.add((long) d.gradients[c]);
        }
        for (int x = 0; x <= d.length; x++) {
            values.add(d.barred[x] ? 1L : 0L);
            values.add(d.required[x] ? 1L : 0L);
            values.add(energy(x));
            values.add((long) brakingDistance(x));
        }
        values.add((long) posts());
        for (int x : d.posts) {
            values.add((long) x);
        }
        List<int[]> violations = violations(new ArrayList<>(d.posts));
        values.add((long) violations.size());
        for (int[] v : violations) {
            values.add(1000L * v[1] + v[0]);
        }
        values.add((long) headway());
        values.add((long) travelTime(0, d.length));
        long h = 12211;
        for (long v : values) {
            h = 31 * h + v;
        }
        return h;
    }
}
