import java.util.ArrayList;
import java.util.List;

/** What the tests share: lines to begin with, answers as texts, and the whole state behind an object. */
abstract class Bench {
    static final Check CHECK = new Check();
    static final Class<?> ARGUMENT = IllegalArgumentException.class;
    static final Class<?> INDEX = IndexOutOfBoundsException.class;
    static final Class<?> STATE = IllegalStateException.class;
    static final int LEAST = Integer.MIN_VALUE;
    static final int MOST = Integer.MAX_VALUE;
    static final int NONE = SignalSpacing.NONE;

    interface Use {
        void on(SignalSpacing x);
    }

    interface Ask {
        long of(SignalSpacing x);
    }

    static SignalSpacing line(int cells) {
        SignalSpacing x = new SignalSpacing();
        x.setLength(cells);
        return x;
    }

    static SignalSpacing withPosts(int cells, int... positions) {
        SignalSpacing x = line(cells);
        add(x, positions);
        return x;
    }

    static SignalSpacing withAllPosts(int cells) {
        SignalSpacing x = line(cells);
        for (int position = 0; position <= cells; position++) {
            x.addPost(position);
        }
        return x;
    }

    static void add(SignalSpacing x, int... positions) {
        for (int position : positions) {
            x.addPost(position);
        }
    }

    static void layout(String what, SignalSpacing x, int... due) {
        CHECK.due(what + ": posts()", x.posts(), due.length);
        for (int i = 0; i < due.length && i < x.posts(); i++) {
            CHECK.due(what + ": post(" + i + ")", x.post(i), due[i]);
        }
    }

    static void violations(String what, SignalSpacing x, int... due) {
        CHECK.due(what + ": violationCount()", x.violationCount(), due.length);
        for (int i = 0; i < due.length && i < x.violationCount(); i++) {
            CHECK.due(what + ": violation(" + i + ")", x.violation(i), due[i]);
        }
    }

    static void designs(String what, SignalSpacing x, int... due) {
        int posts = x.posts();
        CHECK.due(what + ": fewestPosts()", x.fewestPosts(), due.length);
        CHECK.due(what + ": posts() after fewestPosts()", x.posts(), posts);
        CHECK.due(what + ": design()", x.design(), due.length);
        layout(what, x, due);
        violations(what, x);
    }

    static void cannotDesign(String what, SignalSpacing x) {
        CHECK.due(what + ": fewestPosts()", x.fewestPosts(), NONE);
        CHECK.refused(what + ": design()", x, STATE, () -> x.design());
    }

    /** The number that the call answers, or throws.NAME. */
    static String answer(SignalSpacing x, Ask ask) {
        try {
            return Long.toString(ask.of(x));
        } catch (RuntimeException e) {
            return "throws." + e.getClass().getName();
        }
    }

    static String thrown(Class<?> type) {
        return "throws." + type.getName();
    }

    /** The class does not tell the length: it is the number of cells that it knows. */
    static int cells(SignalSpacing x) {
        int cells = 0;
        while (cells < 1000 && !answer(x, cellOf(cells)).startsWith("throws.")) {
            cells++;
        }
        return cells;
    }

    private static Ask cellOf(int cell) {
        return x -> x.limit(cell);
    }

    /** The digest without the number of saved states, so that states can be compared over an undo. */
    static long hash(SignalSpacing x, int saved) {
        int values = 9 + 2 * cells(x) + 4 * (cells(x) + 1) + 1 + x.posts() + 1 + x.violationCount() + 2;
        long weight = 1;
        for (int i = 0; i < values; i++) {
            weight *= 31;
        }
        return x.digest() - saved * weight;
    }

    /** Undoes all: the digest of the present state and of each saved one. */
    static List<Long> trail(SignalSpacing x) {
        List<Long> digests = new ArrayList<>();
        digests.add(x.digest());
        while (digests.size() < 10 && !answer(x, y -> y.undo()).startsWith("throws.")) {
            digests.add(x.digest());
        }
        return digests;
    }
}
