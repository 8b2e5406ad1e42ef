import java.math.BigInteger;
import java.util.ArrayDeque;
import java.util.ArrayList;
import java.util.Deque;
import java.util.List;

/** The sentences of "Undo" and "Exceptions", of the digest and of the 512 calls that name a boundary. */
public final class UndoEdgeTest extends Bench {
    private static final int CALLS = 512;

    public static void main(String[] args) {
        emptyStack();
        stackOfEachSize();
        eachUndoableMethod();
        eachValueComesBack();
        refusedCallsSaveNothing();
        lookingSavesNothing();
        lookingBeforeAChange();
        undoIsNotUndoable();
        savedStatesStayAsTheyAre();
        stackGoesRound();
        newLineAfterAnother();
        digestOfANewObject();
        digestOfFullLayouts();
        digestTellsEachValue();
        manyCalls();
        CHECK.end();
    }

    // ---- undo

    /** "with an empty undo stack"; "if the stack is empty" */
    private static void emptyStack() {
        SignalSpacing x = new SignalSpacing();
        CHECK.refused("undo() of a new object", x, STATE, () -> x.undo());
        CHECK.refused("undo() again", x, STATE, () -> x.undo());
        x.clearPosts();
        CHECK.due("undo() of the only state", x.undo(), 0);
        CHECK.refused("undo() of no state any more", x, STATE, () -> x.undo());
        CHECK.due("a state is saved after that", x.addPost(3), 0);
        CHECK.due("undo() of it", x.undo(), 0);
        CHECK.refused("undo() of no state once more", x, STATE, () -> x.undo());
        layout("the first state", x);
    }

    /** "The stack keeps the latest 4 saved states and drops older ones." */
    private static void stackOfEachSize() {
        for (int calls = 0; calls <= 13; calls++) {
            SignalSpacing x = new SignalSpacing();
            for (int call = 0; call < calls; call++) {
                x.addPost(call);
            }
            int saved = Math.min(calls, 4);
            for (int left = saved - 1; left >= 0; left--) {
                CHECK.due(calls + " calls: undo()", x.undo(), left);
                CHECK.due(calls + " calls: posts() with " + left + " left", x.posts(), calls - saved + left);
            }
            CHECK.refused(calls + " calls: undo() of an empty stack", x, STATE, () -> x.undo());
            CHECK.due(calls + " calls: posts() at last", x.posts(), calls - saved);
        }
    }

    private static final String[] UNDOABLE_NAMES = {"setLength", "setLimit", "setGradient", "setBarred",
        "setRequired", "setTrain", "setRules", "setSight", "addPost", "removePost", "clearPosts", "design",
        "setLength of the same length", "setLimit of the same limit", "setGradient of the same gradient",
        "setBarred of barred ones", "setBarred of free ones", "setRequired of a required one",
        "setRequired of another", "setTrain of the same train", "setRules of the same rules",
        "setSight of the same sight"};
    private static final Use[] UNDOABLE = {x -> x.setLength(10), x -> x.setLimit(0, 59, 50),
        x -> x.setGradient(0, 59, 3), x -> x.setBarred(0, 60, true), x -> x.setRequired(33, true),
        x -> x.setTrain(200, 100, 20), x -> x.setRules(4, 1, 120), x -> x.setSight(40, 20), x -> x.addPost(33),
        x -> x.removePost(45), x -> x.clearPosts(), x -> x.design(),
        x -> x.setLength(60), x -> x.setLimit(0, 9, 70), x -> x.setGradient(0, 59, 0),
        x -> x.setBarred(5, 6, true), x -> x.setBarred(7, 9, false), x -> x.setRequired(30, true),
        x -> x.setRequired(31, false), x -> x.setTrain(80, 20, 4), x -> x.setRules(3, 4, 40), x -> x.setSight(6, 1)};

    /** A line with a bit of all, and so many states on its stack; the posts at 1 to 4 are those undone or not. */
    private static SignalSpacing before(int saved) {
        SignalSpacing x = new SignalSpacing();
        x.setLimit(0, 9, 70);
        x.setBarred(5, 6, true);
        x.setRequired(30, true);
        add(x, 45, 1, 2, 3, 4);
        for (int left = 4; left > saved; left--) {
            x.undo();
        }
        return x;
    }

    /**
     * "Every method that is marked "undoable" saves the whole state [...] when it ends normally, also if it
     * changes nothing. The saved state is the one from before the call."
     */
    private static void eachUndoableMethod() {
        for (int saved = 0; saved <= 4; saved++) {
            for (int call = 0; call < UNDOABLE.length; call++) {
                savesOne(UNDOABLE_NAMES[call] + " with " + saved + " saved", saved, UNDOABLE[call]);
            }
        }
        emptyLayoutIsCleared();
        sameLayoutIsDesigned();
    }

    private static void savesOne(String what, int saved, Use call) {
        List<Long> due = new ArrayList<>();
        for (int left = saved; left >= 0; left--) {
            SignalSpacing earlier = before(saved);
            for (int undone = saved; undone > left; undone--) {
                earlier.undo();
            }
            due.add(hash(earlier, left));
        }
        SignalSpacing x = before(saved);
        call.on(x);
        int kept = Math.min(saved, 3);
        for (int left = kept; left >= 0; left--) {
            CHECK.due(what + ": undo()", x.undo(), left);
            CHECK.due(what + ": the state with " + left + " left", hash(x, left), due.get(kept - left));
        }
        CHECK.refused(what + ": undo() of an empty stack", x, STATE, () -> x.undo());
    }

    private static void emptyLayoutIsCleared() {
        SignalSpacing x = new SignalSpacing();
        CHECK.due("clearPosts() of none", x.clearPosts(), 0);
        CHECK.due("clearPosts() of none is undone", x.undo(), 0);
    }

    private static void sameLayoutIsDesigned() {
        SignalSpacing x = new SignalSpacing();
        x.design();
        long before = hash(x, 1);
        x.design();
        CHECK.due("design() of the same layout saves", hash(x, 2), before);
        CHECK.due("design() of the same layout is undone", x.undo(), 1);
        layout("the same layout", x, 0, 20, 60);
        CHECK.due("and the one before", x.undo(), 0);
        layout("none before", x);
    }

    /** "the whole state (line, train, rules, posts)": each value alone, changed and brought back. */
    private static void eachValueComesBack() {
        Use[] changes = {x -> x.setLength(61), x -> x.setLimit(0, 0, 81), x -> x.setLimit(59, 59, 79),
            x -> x.setGradient(0, 0, 1), x -> x.setGradient(59, 59, -1), x -> x.setBarred(0, 0, true),
            x -> x.setBarred(60, 60, true), x -> x.setRequired(0, true), x -> x.setRequired(60, true),
            x -> x.setTrain(81, 20, 4), x -> x.setTrain(80, 21, 4), x -> x.setTrain(80, 20, 5),
            x -> x.setRules(2, 4, 40), x -> x.setRules(3, 5, 40), x -> x.setRules(3, 4, 41),
            x -> x.setSight(7, 1), x -> x.setSight(6, 2), x -> x.addPost(0), x -> x.addPost(60)};
        for (int change = 0; change < changes.length; change++) {
            SignalSpacing x = new SignalSpacing();
            long first = hash(x, 0);
            changes[change].on(x);
            CHECK.due("change " + change + ": the digest tells of it", hash(x, 1) != first, true);
            x.setLength(120);
            x.setTrain(99, 99, 9);
            x.setRules(4, 9, 99);
            for (int left = 3; left >= 0; left--) {
                CHECK.due("change " + change + ": undo()", x.undo(), left);
            }
            CHECK.due("change " + change + ": the first state", x.digest(), new SignalSpacing().digest());
        }
    }

    /** "A call that throws an exception changes nothing": with an empty stack, and with a full one. */
    private static void refusedCallsSaveNothing() {
        Ask[] refused = {x -> x.setLength(9), x -> x.setLimit(0, 60, 80), x -> x.setGradient(0, 0, 41),
            x -> x.setBarred(5, 4, true), x -> x.setRequired(61, true) ? 1 : 0, x -> x.setTrain(49, 0, 1),
            x -> x.setRules(3, 5, 4), x -> x.setSight(41, 0), x -> x.addPost(61), x -> x.removePost(61),
            x -> x.removePost(59), x -> x.limit(60), x -> x.gradient(60), x -> x.isBarred(61) ? 1 : 0,
            x -> x.energy(61), x -> x.profileSpeed(61), x -> x.brakingDistance(61), x -> x.travelTime(1, 0),
            x -> x.post(5), x -> x.violation(99), x -> x.blockTime(5), x -> x.addPost(45)};
        for (int saved = 0; saved <= 4; saved++) {
            SignalSpacing x = before(saved);
            for (int call = 0; call < refused.length; call++) {
                String got = answer(x, refused[call]);
                CHECK.due("refused call " + call + " answered " + got, got.startsWith("throws.java.lang."), true);
            }
            CHECK.told("refused calls with " + saved + " saved", trail(x), trail(before(saved)));
        }
        SignalSpacing y = withPosts(60, 30);
        y.setRules(3, 61, 61);
        CHECK.refused("capacity()", y, STATE, () -> y.capacity());
        CHECK.refused("design()", y, STATE, () -> y.design());
        SignalSpacing same = withPosts(60, 30);
        same.setRules(3, 61, 61);
        CHECK.told("refused capacity() and design()", trail(y), trail(same));
    }

    private static final Ask[] LOOKS = {x -> x.limit(5), x -> x.gradient(5), x -> x.isBarred(5) ? 1 : 0,
        x -> x.energy(5), x -> x.profileSpeed(5), x -> x.brakingDistance(5), x -> x.travelTime(0, 10), x -> x.posts(),
        x -> x.violationCount(), x -> x.violation(0), x -> x.fewestPosts(), x -> x.headway(), x -> x.digest(),
        x -> x.post(0), x -> x.blockTime(0), x -> x.capacity(), x -> x.design()};

    private static void lookingSavesNothing() {
        for (int saved = 0; saved <= 4; saved++) {
            SignalSpacing x = before(saved);
            // The last one of them is design(), which does save.
            for (int look = 0; look < LOOKS.length - 1; look++) {
                answer(x, LOOKS[look]);
            }
            CHECK.told("looking with " + saved + " saved", trail(x), trail(before(saved)));
        }
        SignalSpacing y = withPosts(60, 0, 30, 60);
        y.post(0);
        y.blockTime(0);
        y.capacity();
        CHECK.told("looking at posts", trail(y), trail(withPosts(60, 0, 30, 60)));
    }

    /** What was computed for the state before a change must not answer for the one behind it. */
    private static void lookingBeforeAChange() {
        for (int change = 0; change <= UNDOABLE.length; change++) {
            for (int first = 0; first < LOOKS.length; first++) {
                SignalSpacing seen = before(4);
                for (int look = 0; look < LOOKS.length - 1; look++) {
                    answer(seen, LOOKS[look]);
                }
                SignalSpacing unseen = before(4);
                String what = "change " + change + " and then look " + first;
                changeOrUndo(seen, change);
                changeOrUndo(unseen, change);
                CHECK.told(what, answer(seen, LOOKS[first]), answer(unseen, LOOKS[first]));
                seen.undo();
                unseen.undo();
                CHECK.told(what + " after undo()", answer(seen, LOOKS[first]), answer(unseen, LOOKS[first]));
            }
        }
    }

    private static void changeOrUndo(SignalSpacing x, int change) {
        if (change < UNDOABLE.length) {
            UNDOABLE[change].on(x);
        } else {
            x.undo();
        }
    }

    /** "Restores the latest saved state and removes it from the undo stack." */
    private static void undoIsNotUndoable() {
        SignalSpacing x = new SignalSpacing();
        add(x, 1, 2, 3);
        CHECK.due("undo()", x.undo(), 2);
        layout("the third one is gone", x, 1, 2);
        CHECK.due("undo() again", x.undo(), 1);
        layout("the second one too", x, 1);
        x.addPost(9);
        layout("another in its place", x, 1, 9);
        CHECK.due("undo() of the other", x.undo(), 1);
        layout("without the other", x, 1);
        CHECK.due("undo() of the first", x.undo(), 0);
        layout("none", x);
    }

    /** A state that has been brought back is changed, while older ones wait on the stack. */
    private static void savedStatesStayAsTheyAre() {
        SignalSpacing x = new SignalSpacing();
        x.setLimit(0, 59, 70);
        x.setBarred(0, 60, true);
        add(x, 10);
        x.undo();
        x.setLimit(0, 59, 60);
        x.setBarred(0, 60, false);
        add(x, 20);
        x.undo();
        x.undo();
        x.undo();
        CHECK.due("limit(0) as it was saved", x.limit(0), 70);
        CHECK.due("isBarred(0) as it was saved", x.isBarred(0), true);
        CHECK.due("undo() once more", x.undo(), 0);
        CHECK.due("isBarred(0) before that", x.isBarred(0), false);
        layout("no post", x);
    }

    /** Up and down at each height, so that the stack's place goes round more than once. */
    private static void stackGoesRound() {
        for (int down = 0; down <= 4; down++) {
            SignalSpacing x = line(10);
            Deque<Integer> due = new ArrayDeque<>();
            due.push(80);
            int limit = 80;
            for (int round = 0; round < 12; round++) {
                for (int up = 0; up < down + 1; up++) {
                    due.push(limit);
                    limit = 20 + (round * 7 + up * 13) % 140;
                    x.setLimit(0, 9, limit);
                }
                while (due.size() > 4) {
                    due.removeLast();
                }
                for (int undone = 0; undone < down && !due.isEmpty(); undone++) {
                    limit = due.pop();
                    CHECK.due("round " + round + ": undo()", x.undo(), due.size());
                    CHECK.due("round " + round + ": limit(9)", x.limit(9), limit);
                }
            }
        }
    }

    /** "All limits, gradients, barred and required positions become those of a new line, and all posts are removed" */
    private static void newLineAfterAnother() {
        int[][] lengths = {{120, 10, 120}, {120, 119, 120}, {10, 10, 120}, {60, 60, 61}, {10, 11, 10}};
        for (int[] l : lengths) {
            SignalSpacing x = line(l[0]);
            x.setLimit(0, l[0] - 1, 33);
            x.setGradient(0, l[0] - 1, 7);
            x.setBarred(0, l[0], true);
            for (int position = 0; position <= l[0]; position++) {
                x.setRequired(position, true);
                x.addPost(position);
            }
            CHECK.due("setLength(" + l[1] + ")", x.setLength(l[1]), l[0]);
            CHECK.due("a new line of " + l[1], hash(x, 4), hash(line(l[1]), 1));
            CHECK.due("setLength(" + l[2] + ")", x.setLength(l[2]), l[1]);
            CHECK.due("a new line of " + l[2], hash(x, 4), hash(line(l[2]), 1));
            CHECK.due("no barred position", x.setBarred(0, 0, false), 0);
        }
    }

    // ---- digest

    private static final BigInteger WORD = BigInteger.ONE.shiftLeft(64);

    /** "long arithmetic, overflow wraps": computed without an overflow, and cut to 64 bits at last. */
    private static long plainHash(List<Long> values) {
        BigInteger h = BigInteger.valueOf(12211);
        for (long v : values) {
            h = h.multiply(BigInteger.valueOf(31)).add(BigInteger.valueOf(v));
        }
        return h.mod(WORD).longValue();
    }

    private static void put(List<Long> values, long... more) {
        for (long v : more) {
            values.add(v);
        }
    }

    /** A line of 80 km/h without gradient, none barred or required, and the train and rules of a new object. */
    private static List<Long> plainLine(int saved, int cells) {
        List<Long> values = new ArrayList<>();
        put(values, saved, cells, 80, 20, 4, 3, 4, 40, 6, 1);
        for (int cell = 0; cell < cells; cell++) {
            put(values, 80, 0);
        }
        for (int position = 0; position <= cells; position++) {
            put(values, 0, 0, 800000, 8);
        }
        return values;
    }

    /** "It starts with h = 12211": an empty layout has no post, two violations, and NONE as headway. */
    private static void digestOfANewObject() {
        for (int cells : new int[] {60, 10, 120}) {
            List<Long> values = plainLine(cells == 60 ? 0 : 1, cells);
            put(values, 0, 2, 2000, 2000 + cells, -1, 2250L * cells);
            SignalSpacing x = cells == 60 ? new SignalSpacing() : line(cells);
            CHECK.due("digest() of an empty layout on " + cells + " cells", x.digest(), plainHash(values));
        }
    }

    private static void digestOfFullLayouts() {
        for (int cells : new int[] {10, 120}) {
            List<Long> values = plainLine(4, cells);
            put(values, cells + 1);
            for (int position = 0; position <= cells; position++) {
                put(values, position);
            }
            put(values, 2 * cells, 5000);
            for (int position = 1; position < cells; position++) {
                put(values, 3000 + position, 5000 + position);
            }
            // The longest block has 6 cells of sight, 2 from post to post, 1 of overlap and 4 of train.
            put(values, 3000 + cells, Math.min(cells, 13) * 2250, 2250L * cells);
            CHECK.due("digest() of a full layout on " + cells + " cells", withAllPosts(cells).digest(),
                plainHash(values));
        }
    }

    /** Each value stands at its place: its weight is the power of 31 by the number of values behind it. */
    private static void digestTellsEachValue() {
        SignalSpacing x = line(10);
        x.setLimit(0, 9, 20);
        x.setLimit(3, 3, 21);
        x.setGradient(0, 0, -40);
        x.setGradient(9, 9, 40);
        x.setBarred(0, 0, true);
        x.setBarred(10, 10, true);
        x.setRequired(0, true);
        x.setRequired(10, true);
        x.setTrain(200, 1, 20);
        x.setRules(2, 1, 120);
        x.setSight(0, 20);
        x.addPost(10);
        List<Long> values = new ArrayList<>();
        put(values, 4, 10, 200, 1, 20, 2, 1, 120, 0, 20);
        put(values, 20, -40, 20, 0, 20, 0, 21, 0, 20, 0, 20, 0, 20, 0, 20, 0, 20, 0, 20, 40);
        // 50000 = 125 * 20 * 20 and 55125 = 125 * 21 * 21: a cell of reaction and one of braking.
        put(values, 1, 1, 50000, 2, 0, 0, 50000, 2, 0, 0, 50000, 2, 0, 0, 55125, 2, 0, 0, 50000, 2, 0, 0, 50000, 2);
        put(values, 0, 0, 50000, 2, 0, 0, 50000, 2, 0, 0, 50000, 2, 0, 0, 50000, 2, 1, 1, 50000, 2);
        put(values, 1, 10, 2, 2000, 1010, -1, 9 * 9000 + 8572);
        CHECK.due("digest() of values at the ends of their ranges", x.digest(), plainHash(values));
    }

    // ---- "An object is used for at most 512 calls"

    private static void manyCalls() {
        SignalSpacing x = new SignalSpacing();
        for (int call = 1; call < CALLS; call++) {
            int left = call % 2 == 1 ? x.addPost(call % 61) : x.removePost((call - 1) % 61);
            CHECK.due("call " + call, left, 0);
        }
        // 511 calls were made: the last of them has added a post at 511 % 61 = 23.
        List<Long> values = plainLine(4, 60);
        put(values, 1, 23, 2, 2000, 2060, -1, 135000);
        CHECK.due("call 512: digest()", x.digest(), plainHash(values));
        manyDesigns();
    }

    private static void manyDesigns() {
        SignalSpacing x = line(120);
        int saved = 1;
        for (int call = 2; call + 3 <= CALLS; call += 4) {
            // Two aspects see 6 cells and brake in 8; three and four want gaps of 40 at most.
            int aspects = 2 + call / 4 % 3;
            x.setRules(aspects, 1, 40);
            CHECK.due("call " + (call + 1) + ": fewestPosts()", x.fewestPosts(), aspects == 2 ? NONE : 4);
            CHECK.told("call " + (call + 2) + ": design()", answer(x, y -> y.design()),
                aspects == 2 ? thrown(STATE) : "4");
            saved = Math.min(4, saved + (aspects == 2 ? 1 : 2)) - 1;
            CHECK.due("call " + (call + 3) + ": undo()", x.undo(), saved);
        }
    }
}
