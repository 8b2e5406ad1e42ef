/**
 * For each argument of each method the last value inside its range and the first one outside, on lines of
 * each end of L and with stacks and layouts that are empty and full; and that a refused call changes nothing.
 */
public final class RangeTest extends Bench {
    /** A way to make the same object again and again. */
    private static final class Setup {
        final String name;
        final int cells;
        final int saved;
        private final Use build;

        Setup(String name, int cells, int saved, Use build) {
            this.name = name;
            this.cells = cells;
            this.saved = saved;
            this.build = build;
        }

        SignalSpacing make() {
            SignalSpacing x = new SignalSpacing();
            build.on(x);
            return x;
        }
    }

    // No value of these stands at an end of its range, so that each inside value is a change.
    private static final Setup[] SETUPS = {
        new Setup("a new object", 60, 0, x -> { }),
        new Setup("one saved state", 60, 1, x -> x.addPost(30)),
        new Setup("the shortest line, no post", 10, 1, x -> x.setLength(10)),
        new Setup("the shortest line, all posts", 10, 4, x -> {
            x.setLength(10);
            x.setLimit(9, 9, 40);
            x.setBarred(3, 3, true);
            x.setRequired(5, true);
            addAll(x, 10);
        }),
        new Setup("the longest line, no post", 120, 4, x -> {
            x.setLength(120);
            x.setGradient(0, 119, -39);
            x.setTrain(51, 99, 19);
            x.setRules(4, 2, 119);
            x.setSight(39, 19);
        }),
        new Setup("the longest line, all posts", 120, 4, x -> {
            x.setRules(4, 2, 119);
            x.setLength(120);
            addAll(x, 120);
        })};

    public static void main(String[] args) {
        for (Setup s : SETUPS) {
            setLength(s);
            setLimit(s);
            setGradient(s);
            setBarred(s);
            setRequired(s);
            setTrain(s);
            setRules(s);
            setSight(s);
            cellReaders(s);
            positionReaders(s);
            travelTime(s);
            addPost(s);
            removePost(s);
            postIndex(s);
            violationIndex(s);
            blockTimeIndex(s);
            statesThatRefuse(s);
            callsWithoutArguments(s);
        }
        firstListedException();
        CHECK.end();
    }

    private static void addAll(SignalSpacing x, int cells) {
        for (int position = 0; position <= cells; position++) {
            x.addPost(position);
        }
    }

    // ---- what a call inside and one outside must do

    /** Answers the object after the call, on which its effect can be looked at. */
    private static SignalSpacing accepted(Setup s, String call, Ask ask, long due) {
        String what = s.name + ": " + call;
        SignalSpacing x = s.make();
        CHECK.told(what, answer(x, ask), Long.toString(due));
        SignalSpacing before = s.make();
        SignalSpacing after = s.make();
        answer(after, ask);
        CHECK.told(what + ": undo()", answer(after, y -> y.undo()), Long.toString(Math.min(s.saved, 3)));
        CHECK.due(what + ": the state after undo()", hash(after, Math.min(s.saved, 3)), hash(before, s.saved));
        return x;
    }

    private static void refused(Setup s, String call, Class<?> type, Ask ask) {
        String what = s.name + ": " + call;
        SignalSpacing x = s.make();
        CHECK.told(what, answer(x, ask), thrown(type));
        CHECK.told(what + ": this and all saved states", trail(x), trail(s.make()));
    }

    /** A call that only looks: it changes nothing either. */
    private static void read(Setup s, String call, Ask ask, long due) {
        String what = s.name + ": " + call;
        SignalSpacing x = s.make();
        CHECK.told(what, answer(x, ask), Long.toString(due));
        CHECK.told(what + " again", answer(x, ask), Long.toString(due));
        CHECK.told(what + ": this and all saved states", trail(x), trail(s.make()));
    }

    // ---- promises 2 to 9

    private static void setLength(Setup s) {
        SignalSpacing x = accepted(s, "setLength(10)", y -> y.setLength(10), s.cells);
        CHECK.due(s.name + ": cells after setLength(10)", cells(x), 10);
        CHECK.due(s.name + ": posts after setLength(10)", x.posts(), 0);
        x = accepted(s, "setLength(120)", y -> y.setLength(120), s.cells);
        CHECK.due(s.name + ": cells after setLength(120)", cells(x), 120);
        CHECK.due(s.name + ": posts after setLength(120)", x.posts(), 0);
        for (int cells : new int[] {9, 121, 0, -10, LEAST, MOST}) {
            refused(s, "setLength(" + cells + ")", ARGUMENT, y -> y.setLength(cells));
        }
    }

    private static void setLimit(Setup s) {
        int last = s.cells - 1;
        SignalSpacing x = accepted(s, "setLimit of the first cell to 20", y -> y.setLimit(0, 0, 20), 1);
        CHECK.due(s.name + ": limit(0)", x.limit(0), 20);
        CHECK.due(s.name + ": limit(1)", x.limit(1), 80);
        x = accepted(s, "setLimit of the last cell to 160", y -> y.setLimit(last, last, 160), 1);
        CHECK.due(s.name + ": the last limit", x.limit(last), 160);
        CHECK.due(s.name + ": the last limit but one", x.limit(last - 1), 80);
        accepted(s, "setLimit of all cells to 20", y -> y.setLimit(0, last, 20), s.cells);
        accepted(s, "setLimit of all cells to 160", y -> y.setLimit(0, last, 160), s.cells);
        int[][] outside = {{-1, 0, 80}, {-1, -1, 80}, {0, last + 1, 80}, {last + 1, last + 1, 80}, {0, -1, 80},
            {last, last - 1, 80}, {1, 0, 80}, {0, 0, 19}, {0, 0, 161}, {0, last, 0}, {0, last, -80}, {LEAST, 0, 80},
            {0, MOST, 80}, {LEAST, MOST, 80}, {MOST, LEAST, 80}, {MOST, MOST, 80}, {0, 0, LEAST}, {0, 0, MOST}};
        for (int[] o : outside) {
            refused(s, "setLimit(" + o[0] + ", " + o[1] + ", " + o[2] + ")", ARGUMENT,
                y -> y.setLimit(o[0], o[1], o[2]));
        }
    }

    private static void setGradient(Setup s) {
        int last = s.cells - 1;
        SignalSpacing x = accepted(s, "setGradient of the first cell to -40", y -> y.setGradient(0, 0, -40), 1);
        CHECK.due(s.name + ": gradient(0)", x.gradient(0), -40);
        CHECK.due(s.name + ": gradient(1) stays", x.gradient(1), s.make().gradient(1));
        x = accepted(s, "setGradient of the last cell to 40", y -> y.setGradient(last, last, 40), 1);
        CHECK.due(s.name + ": the last gradient", x.gradient(last), 40);
        CHECK.due(s.name + ": the last gradient but one stays", x.gradient(last - 1), s.make().gradient(last - 1));
        accepted(s, "setGradient of all cells to -40", y -> y.setGradient(0, last, -40), s.cells);
        accepted(s, "setGradient of all cells to 40", y -> y.setGradient(0, last, 40), s.cells);
        int[][] outside = {{-1, 0, 1}, {-1, -1, 1}, {0, last + 1, 1}, {last + 1, last + 1, 1}, {0, -1, 1},
            {last, last - 1, 1}, {1, 0, 1}, {0, 0, -41}, {0, 0, 41}, {LEAST, 0, 1}, {0, MOST, 1}, {LEAST, MOST, 1},
            {MOST, LEAST, 1}, {MOST, MOST, 1}, {0, 0, LEAST}, {0, 0, MOST}};
        for (int[] o : outside) {
            refused(s, "setGradient(" + o[0] + ", " + o[1] + ", " + o[2] + ")", ARGUMENT,
                y -> y.setGradient(o[0], o[1], o[2]));
        }
    }

    private static void setBarred(Setup s) {
        int last = s.cells;
        int barred = s.make().isBarred(3) ? 1 : 0;
        SignalSpacing x = accepted(s, "setBarred of the first position", y -> y.setBarred(0, 0, true), barred + 1);
        CHECK.due(s.name + ": isBarred(0)", x.isBarred(0), true);
        CHECK.due(s.name + ": isBarred(1)", x.isBarred(1), false);
        x = accepted(s, "setBarred of the last position", y -> y.setBarred(last, last, true), barred + 1);
        CHECK.due(s.name + ": the last one is barred", x.isBarred(last), true);
        CHECK.due(s.name + ": the last one but one is not", x.isBarred(last - 1), false);
        accepted(s, "setBarred of all positions", y -> y.setBarred(0, last, true), s.cells + 1);
        accepted(s, "setBarred of no position", y -> y.setBarred(0, last, false), 0);
        int[][] outside = {{-1, 0}, {-1, -1}, {0, last + 1}, {last + 1, last + 1}, {0, -1}, {last, last - 1}, {1, 0},
            {LEAST, 0}, {0, MOST}, {LEAST, MOST}, {MOST, LEAST}, {MOST, MOST}};
        for (int[] o : outside) {
            for (boolean bar : new boolean[] {true, false}) {
                refused(s, "setBarred(" + o[0] + ", " + o[1] + ", " + bar + ")", ARGUMENT,
                    y -> y.setBarred(o[0], o[1], bar));
            }
        }
    }

    private static void setRequired(Setup s) {
        for (int position : new int[] {0, s.cells}) {
            for (boolean require : new boolean[] {true, false}) {
                SignalSpacing x = accepted(s, "setRequired(" + position + ", " + require + ")",
                    y -> y.setRequired(position, require) ? 1 : 0, 0);
                CHECK.due(s.name + ": it is so afterwards", x.setRequired(position, true), require);
            }
        }
        SignalSpacing same = s.make();
        same.setRequired(s.cells, false);
        CHECK.due(s.name + ": setRequired(.., false) of one that is not", hash(same, Math.min(4, s.saved + 1)),
            hash(s.make(), s.saved));
        for (int position : new int[] {-1, s.cells + 1, LEAST, MOST}) {
            for (boolean require : new boolean[] {true, false}) {
                refused(s, "setRequired(" + position + ", " + require + ")", ARGUMENT,
                    y -> y.setRequired(position, require) ? 1 : 0);
            }
        }
    }

    private static void setTrain(Setup s) {
        int rate = s.make().setTrain(100, 10, 10);
        int[][] inside = {{50, 50, 10}, {200, 50, 10}, {100, 0, 10}, {100, 100, 10}, {100, 50, 1}, {100, 50, 20},
            {50, 0, 1}, {200, 100, 20}};
        for (int[] i : inside) {
            SignalSpacing x = accepted(s, "setTrain(" + i[0] + ", " + i[1] + ", " + i[2] + ")",
                y -> y.setTrain(i[0], i[1], i[2]), rate);
            CHECK.due(s.name + ": the rate afterwards", x.setTrain(80, 20, 4), i[0]);
        }
        int[][] outside = {{49, 50, 10}, {201, 50, 10}, {100, -1, 10}, {100, 101, 10}, {100, 50, 0}, {100, 50, 21},
            {0, 50, 10}, {-100, 50, 10}, {100, 50, -1}, {49, 101, 21}, {LEAST, 50, 10}, {MOST, 50, 10},
            {100, LEAST, 10}, {100, MOST, 10}, {100, 50, LEAST}, {100, 50, MOST}};
        for (int[] o : outside) {
            refused(s, "setTrain(" + o[0] + ", " + o[1] + ", " + o[2] + ")", ARGUMENT,
                y -> y.setTrain(o[0], o[1], o[2]));
        }
    }

    private static void setRules(Setup s) {
        int aspects = s.make().setRules(3, 5, 50);
        int[][] inside = {{2, 5, 50}, {3, 5, 50}, {4, 5, 50}, {3, 1, 50}, {3, 50, 50}, {3, 1, 1}, {3, 1, 120},
            {3, 120, 120}, {2, 119, 120}};
        for (int[] i : inside) {
            SignalSpacing x = accepted(s, "setRules(" + i[0] + ", " + i[1] + ", " + i[2] + ")",
                y -> y.setRules(i[0], i[1], i[2]), aspects);
            CHECK.due(s.name + ": the aspects afterwards", x.setRules(3, 4, 40), i[0]);
        }
        int[][] outside = {{1, 5, 50}, {5, 5, 50}, {0, 5, 50}, {-3, 5, 50}, {3, 0, 50}, {3, 51, 50}, {3, -1, 50},
            {3, 0, 0}, {3, 1, 0}, {3, 0, 1}, {3, 2, 1}, {3, 1, 121}, {3, 121, 121}, {3, 121, 120}, {3, -2, -1},
            {LEAST, 5, 50}, {MOST, 5, 50}, {3, LEAST, 50}, {3, MOST, 50}, {3, 5, LEAST}, {3, 5, MOST},
            {3, LEAST, LEAST}, {3, MOST, MOST}};
        for (int[] o : outside) {
            refused(s, "setRules(" + o[0] + ", " + o[1] + ", " + o[2] + ")", ARGUMENT,
                y -> y.setRules(o[0], o[1], o[2]));
        }
    }

    private static void setSight(Setup s) {
        int sighting = s.make().setSight(10, 10);
        int[][] inside = {{0, 10}, {40, 10}, {10, 0}, {10, 20}, {0, 0}, {40, 20}};
        for (int[] i : inside) {
            SignalSpacing x = accepted(s, "setSight(" + i[0] + ", " + i[1] + ")",
                y -> y.setSight(i[0], i[1]), sighting);
            CHECK.due(s.name + ": the sighting distance afterwards", x.setSight(6, 1), i[0]);
        }
        int[][] outside = {{-1, 10}, {41, 10}, {10, -1}, {10, 21}, {LEAST, 10}, {MOST, 10}, {10, LEAST}, {10, MOST}};
        for (int[] o : outside) {
            refused(s, "setSight(" + o[0] + ", " + o[1] + ")", ARGUMENT, y -> y.setSight(o[0], o[1]));
        }
    }

    // ---- promises 10 to 16

    private static void cellReaders(Setup s) {
        int last = s.cells - 1;
        read(s, "limit(0)", y -> y.limit(0), 80);
        read(s, "limit of the last cell", y -> y.limit(last), s.saved == 4 && s.cells == 10 ? 40 : 80);
        int gradient = s.cells == 120 && s.make().posts() == 0 ? -39 : 0;
        read(s, "gradient(0)", y -> y.gradient(0), gradient);
        read(s, "gradient of the last cell", y -> y.gradient(last), gradient);
        for (int cell : new int[] {-1, last + 1, last + 2, LEAST, MOST}) {
            refused(s, "limit(" + cell + ")", INDEX, y -> y.limit(cell));
            refused(s, "gradient(" + cell + ")", INDEX, y -> y.gradient(cell));
        }
    }

    private static void positionReaders(Setup s) {
        long endEnergy = s.saved == 4 && s.cells == 10 ? 125 * 40 * 40 : 125 * 80 * 80;
        read(s, "isBarred(0)", y -> y.isBarred(0) ? 1 : 0, 0);
        read(s, "isBarred of the last position", y -> y.isBarred(s.cells) ? 1 : 0, 0);
        read(s, "energy(0)", y -> y.energy(0), 800000);
        read(s, "energy of the last position", y -> y.energy(s.cells), endEnergy);
        read(s, "profileSpeed(0)", y -> y.profileSpeed(0), 80);
        read(s, "profileSpeed of the last position", y -> y.profileSpeed(s.cells), endEnergy == 800000 ? 80 : 40);
        // 80 * 99 / 1800 are 5 cells, and 800000 / (1620 * (51 - 39)) are 42; a rate of 80 takes 1 and 7.
        int distance = s.cells == 120 && s.make().posts() == 0 ? 5 + 42 : 8;
        read(s, "brakingDistance(0)", y -> y.brakingDistance(0), distance);
        read(s, "brakingDistance of the last position", y -> y.brakingDistance(s.cells),
            endEnergy == 800000 ? distance : 1 + 2);
        for (int position : new int[] {-1, s.cells + 1, s.cells + 2, LEAST, MOST}) {
            refused(s, "isBarred(" + position + ")", INDEX, y -> y.isBarred(position) ? 1 : 0);
            refused(s, "energy(" + position + ")", INDEX, y -> y.energy(position));
            refused(s, "profileSpeed(" + position + ")", INDEX, y -> y.profileSpeed(position));
            refused(s, "brakingDistance(" + position + ")", INDEX, y -> y.brakingDistance(position));
        }
    }

    private static void travelTime(Setup s) {
        int last = s.cells;
        read(s, "travelTime(0, 0)", y -> y.travelTime(0, 0), 0);
        read(s, "travelTime(0, 1)", y -> y.travelTime(0, 1), 2250);
        read(s, "travelTime from the last position on", y -> y.travelTime(last, last), 0);
        boolean isSlowAtTheEnd = s.saved == 4 && s.cells == 10;
        // 40 km/h, and 51, 60, 68 and 75 before them: the roots of 329600, 459200, 588800 and 718400 / 125.
        int whole = isSlowAtTheEnd ? 5 * 2250 + 2400 + 2648 + 3000 + 3530 + 4500 : 2250 * s.cells;
        read(s, "travelTime of the last cell", y -> y.travelTime(last - 1, last), isSlowAtTheEnd ? 4500 : 2250);
        read(s, "travelTime of the line", y -> y.travelTime(0, last), whole);
        int[][] outside = {{-1, 0}, {-1, -1}, {0, last + 1}, {last, last + 1}, {last + 1, last + 1}, {0, -1}, {1, 0},
            {last, last - 1}, {LEAST, 0}, {0, MOST}, {LEAST, MOST}, {MOST, LEAST}, {MOST, MOST}, {LEAST, LEAST}};
        for (int[] o : outside) {
            refused(s, "travelTime(" + o[0] + ", " + o[1] + ")", ARGUMENT, y -> y.travelTime(o[0], o[1]));
        }
    }

    // ---- promises 17 to 28

    private static void addPost(Setup s) {
        int posts = s.make().posts();
        for (int position : new int[] {0, s.cells}) {
            if (posts == s.cells + 1) {
                refused(s, "addPost(" + position + ")", STATE, y -> y.addPost(position));
            } else {
                SignalSpacing x = accepted(s, "addPost(" + position + ")", y -> y.addPost(position),
                    position == 0 ? 0 : posts);
                CHECK.due(s.name + ": the post that is added", x.post(position == 0 ? 0 : posts), position);
            }
        }
        for (int position : new int[] {-1, s.cells + 1, LEAST, MOST}) {
            refused(s, "addPost(" + position + ")", ARGUMENT, y -> y.addPost(position));
        }
    }

    private static void removePost(Setup s) {
        int posts = s.make().posts();
        for (int position : new int[] {0, s.cells}) {
            if (posts == s.cells + 1) {
                SignalSpacing x = accepted(s, "removePost(" + position + ")", y -> y.removePost(position), s.cells);
                CHECK.due(s.name + ": the first post afterwards", x.post(0), position == 0 ? 1 : 0);
                CHECK.due(s.name + ": the last post afterwards", x.post(s.cells - 1),
                    position == 0 ? s.cells : s.cells - 1);
            } else {
                refused(s, "removePost(" + position + ")", STATE, y -> y.removePost(position));
            }
        }
        for (int position : new int[] {-1, s.cells + 1, LEAST, MOST}) {
            refused(s, "removePost(" + position + ")", ARGUMENT, y -> y.removePost(position));
        }
    }

    private static void postIndex(Setup s) {
        int posts = s.make().posts();
        read(s, "posts()", y -> y.posts(), posts);
        if (posts > 0) {
            read(s, "post(0)", y -> y.post(0), posts == 1 ? 30 : 0);
            read(s, "post of the last index", y -> y.post(posts - 1), posts == 1 ? 30 : s.cells);
        }
        for (int index : new int[] {-1, posts, posts + 1, LEAST, MOST}) {
            refused(s, "post(" + index + ")", INDEX, y -> y.post(index));
        }
    }

    private static void violationIndex(Setup s) {
        int count = s.make().violationCount();
        boolean isFull = s.make().posts() > 1;
        // At the first of all posts the next is too near, at the last one the gap is too short.
        read(s, "violation(0)", y -> y.violation(0), isFull ? 5000 : 2000);
        read(s, "violation of the last index", y -> y.violation(count - 1), (isFull ? 3000 : 2000) + s.cells);
        for (int index : new int[] {-1, count, count + 1, LEAST, MOST}) {
            refused(s, "violation(" + index + ")", INDEX, y -> y.violation(index));
        }
    }

    private static void blockTimeIndex(Setup s) {
        int posts = s.make().posts();
        if (posts > 0) {
            read(s, "blockTime of the last index", y -> y.blockTime(posts - 1), NONE);
        }
        for (int index : new int[] {-1, posts, posts + 1, LEAST, MOST}) {
            refused(s, "blockTime(" + index + ")", INDEX, y -> y.blockTime(index));
        }
    }

    private static void statesThatRefuse(Setup s) {
        if (s.make().posts() < 2) {
            read(s, "headway()", y -> y.headway(), NONE);
            refused(s, "capacity()", STATE, y -> y.capacity());
        }
        Setup noLayout = new Setup(s.name + ", no layout is valid", s.cells, Math.min(4, s.saved + 1), x -> {
            s.build.on(x);
            x.setRules(3, s.cells == 120 ? 61 : s.cells + 1, s.cells == 120 ? 119 : s.cells + 1);
        });
        read(noLayout, "fewestPosts()", y -> y.fewestPosts(), NONE);
        refused(noLayout, "design()", STATE, y -> y.design());
        if (s.saved == 0) {
            refused(s, "undo()", STATE, y -> y.undo());
        }
    }

    private static void callsWithoutArguments(Setup s) {
        SignalSpacing x = accepted(s, "clearPosts()", y -> y.clearPosts(), s.make().posts());
        CHECK.due(s.name + ": posts() afterwards", x.posts(), 0);
        read(s, "violationCount()", y -> y.violationCount(), s.make().violationCount());
        read(s, "fewestPosts()", y -> y.fewestPosts(), s.make().fewestPosts());
        read(s, "headway()", y -> y.headway(), s.make().headway());
        read(s, "digest()", y -> y.digest(), s.make().digest());
        if (s.make().headway() != NONE) {
            read(s, "capacity()", y -> y.capacity(), 3600000 / s.make().headway());
        }
    }

    /** "If several exceptions of a method apply, the one that is listed first is thrown." */
    private static void firstListedException() {
        SignalSpacing empty = line(10);
        SignalSpacing full = withAllPosts(10);
        for (int position : new int[] {-1, 11, 60, 120, LEAST, MOST}) {
            String text = "(" + position + ")";
            CHECK.refused("no such position and no post there: removePost" + text, empty, ARGUMENT,
                () -> empty.removePost(position));
            CHECK.refused("no such position and a full layout: removePost" + text, full, ARGUMENT,
                () -> full.removePost(position));
            CHECK.refused("no such position and a full layout: addPost" + text, full, ARGUMENT,
                () -> full.addPost(position));
        }
        SignalSpacing shorter = withPosts(60, 0, 60);
        shorter.setLength(10);
        CHECK.refused("a post of the longer line: removePost(60)", shorter, ARGUMENT, () -> shorter.removePost(60));
        CHECK.refused("a post of the longer line: addPost(60)", shorter, ARGUMENT, () -> shorter.addPost(60));
    }
}
