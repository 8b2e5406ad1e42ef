/** Promises 1 to 30: ordinary inputs, the edges that the document names, wrong inputs. */
public final class PromiseTest extends Bench {
    public static void main(String[] args) {
        newObject();
        setLength();
        setLimit();
        setGradient();
        setBarred();
        setRequired();
        setTrain();
        setRules();
        setSight();
        limit();
        gradient();
        isBarred();
        energy();
        profileSpeed();
        brakingDistance();
        travelTime();
        addPost();
        removePost();
        clearPosts();
        posts();
        post();
        violationCount();
        violation();
        violationEdges();
        fewestPosts();
        bestLayouts();
        design();
        blockTime();
        headway();
        capacity();
        undo();
        digest();
        CHECK.end();
    }

    // ---- helpers

    /** One state is saved, also if nothing changes, and undo brings back the one from before the call. */
    private static void undoable(String what, Use before, Use call) {
        SignalSpacing x = new SignalSpacing();
        before.on(x);
        SignalSpacing same = new SignalSpacing();
        before.on(same);
        int saved = states(same);
        long digest = x.digest();
        call.on(x);
        // Looked at before the undo too, so that nothing computed for that state outlives it.
        CHECK.due(what + ": the digest tells of the saved state", x.digest() != digest, true);
        CHECK.due(what + ": undo() afterwards", x.undo(), saved);
        CHECK.due(what + ": the digest after undo()", x.digest(), digest);
    }

    /** Empties the stack of an object that is not used any more. */
    private static int states(SignalSpacing x) {
        for (int count = 0; ; count++) {
            try {
                x.undo();
            } catch (IllegalStateException e) {
                return count;
            }
        }
    }

    private static void saves(String what, SignalSpacing x, int due) {
        CHECK.due(what + ": states saved", states(x), due);
    }

    // ---- promises 1 to 9

    private static void newObject() {
        SignalSpacing x = new SignalSpacing();
        for (int cell = 0; cell < 60; cell++) {
            CHECK.due("1: limit(" + cell + ")", x.limit(cell), 80);
            CHECK.due("1: gradient(" + cell + ")", x.gradient(cell), 0);
        }
        for (int position = 0; position <= 60; position++) {
            CHECK.due("1: isBarred(" + position + ")", x.isBarred(position), false);
        }
        layout("1", x);
        violations("1: none is required but the ends", x, 2000, 2060);
        CHECK.refused("1: undo()", x, STATE, () -> x.undo());
        CHECK.due("1: setLength", new SignalSpacing().setLength(10), 60);
        CHECK.due("1: setTrain", new SignalSpacing().setTrain(50, 0, 1), 80);
        CHECK.due("1: setRules", new SignalSpacing().setRules(2, 1, 1), 3);
        CHECK.due("1: setSight", new SignalSpacing().setSight(0, 0), 6);
        CHECK.due("1: an object has a state of its own", new SignalSpacing().digest(), x.digest());
    }

    private static void setLength() {
        SignalSpacing x = new SignalSpacing();
        CHECK.due("2: setLength(10)", x.setLength(10), 60);
        CHECK.due("2: setLength(120)", x.setLength(120), 10);
        CHECK.due("2: setLength(120) again", x.setLength(120), 120);
        CHECK.due("2: the last cell", x.limit(119), 80);
        for (int cells : new int[] {9, 121, 0, -1, LEAST, MOST}) {
            CHECK.refused("2: setLength(" + cells + ")", x, ARGUMENT, () -> x.setLength(cells));
        }
        lineIsNewButTrainAndRulesStay();
        undoable("2: another length", PromiseTest::fill, y -> y.setLength(80));
        undoable("2: the same length", PromiseTest::fill, y -> y.setLength(60));
        undoable("2: nothing changes", y -> { }, y -> y.setLength(60));
    }

    /** Four changes of four kinds, so that an undo has all of them to bring back. */
    private static void fill(SignalSpacing x) {
        x.setLimit(10, 20, 40);
        x.setBarred(5, 7, true);
        x.setRequired(9, true);
        add(x, 0, 9, 60);
        x.undo();
    }

    private static void lineIsNewButTrainAndRulesStay() {
        SignalSpacing x = new SignalSpacing();
        x.setLimit(0, 59, 40);
        x.setGradient(0, 59, 10);
        x.setBarred(0, 60, true);
        for (int position = 0; position <= 60; position += 5) {
            x.setRequired(position, true);
        }
        add(x, 0, 30, 60);
        x.setTrain(100, 30, 5);
        x.setRules(4, 5, 50);
        x.setSight(7, 2);
        x.setLength(60);
        for (int cell = 0; cell < 60; cell++) {
            CHECK.due("2: limit(" + cell + ") of the new line", x.limit(cell), 80);
            CHECK.due("2: gradient(" + cell + ") of the new line", x.gradient(cell), 0);
            CHECK.due("2: isBarred(" + cell + ") of the new line", x.isBarred(cell), false);
        }
        violations("2: no post and nothing required", x, 2000, 2060);
        CHECK.due("2: posts()", x.posts(), 0);
        CHECK.due("2: the braking rate stays", x.setTrain(100, 30, 5), 100);
        CHECK.due("2: the aspects stay", x.setRules(4, 5, 50), 4);
        CHECK.due("2: the sighting distance stays", x.setSight(7, 2), 7);
        CHECK.due("2: all of them stay", x.digest(), plainDigest(4, 60, 100, 30, 5, 4, 5, 50, 7, 2));
    }

    private static void setLimit() {
        SignalSpacing x = new SignalSpacing();
        CHECK.due("3: setLimit(3, 5, 20)", x.setLimit(3, 5, 20), 3);
        CHECK.due("3: limit(2)", x.limit(2), 80);
        CHECK.due("3: limit(3)", x.limit(3), 20);
        CHECK.due("3: limit(5)", x.limit(5), 20);
        CHECK.due("3: limit(6)", x.limit(6), 80);
        CHECK.due("3: only cells that have changed count", x.setLimit(4, 8, 20), 3);
        CHECK.due("3: none has changed", x.setLimit(3, 8, 20), 0);
        CHECK.due("3: the whole line", x.setLimit(0, 59, 160), 60);
        CHECK.due("3: one cell", x.setLimit(59, 59, 159), 1);
        CHECK.due("3: the gradient stays", x.gradient(59), 0);
        int[][] wrong = {{-1, 5, 80}, {0, 60, 80}, {5, 4, 80}, {60, 60, 80}, {0, 5, 19}, {0, 5, 161}, {0, -1, 80},
            {LEAST, 0, 80}, {0, MOST, 80}, {0, 0, LEAST}, {0, 0, MOST}, {MOST, LEAST, 80}};
        for (int[] w : wrong) {
            CHECK.refused("3: setLimit(" + w[0] + ", " + w[1] + ", " + w[2] + ")", x, ARGUMENT,
                () -> x.setLimit(w[0], w[1], w[2]));
        }
        undoable("3", PromiseTest::fill, y -> y.setLimit(0, 30, 50));
        undoable("3: nothing changes", PromiseTest::fill, y -> y.setLimit(10, 20, 40));
    }

    private static void setGradient() {
        SignalSpacing x = new SignalSpacing();
        CHECK.due("4: setGradient(3, 5, 40)", x.setGradient(3, 5, 40), 3);
        CHECK.due("4: gradient(2)", x.gradient(2), 0);
        CHECK.due("4: gradient(3)", x.gradient(3), 40);
        CHECK.due("4: gradient(5)", x.gradient(5), 40);
        CHECK.due("4: gradient(6)", x.gradient(6), 0);
        CHECK.due("4: only cells that have changed count", x.setGradient(4, 8, 40), 3);
        CHECK.due("4: none has changed", x.setGradient(3, 8, 40), 0);
        CHECK.due("4: the whole line", x.setGradient(0, 59, -40), 60);
        CHECK.due("4: one cell", x.setGradient(59, 59, 39), 1);
        CHECK.due("4: the limit stays", x.limit(59), 80);
        int[][] wrong = {{-1, 5, 0}, {0, 60, 0}, {5, 4, 0}, {60, 60, 0}, {0, 5, -41}, {0, 5, 41}, {0, -1, 0},
            {LEAST, 0, 0}, {0, MOST, 0}, {0, 0, LEAST}, {0, 0, MOST}, {MOST, LEAST, 0}};
        for (int[] w : wrong) {
            CHECK.refused("4: setGradient(" + w[0] + ", " + w[1] + ", " + w[2] + ")", x, ARGUMENT,
                () -> x.setGradient(w[0], w[1], w[2]));
        }
        undoable("4", PromiseTest::fill, y -> y.setGradient(0, 30, -5));
        undoable("4: nothing changes", PromiseTest::fill, y -> y.setGradient(0, 30, 0));
    }

    private static void setBarred() {
        SignalSpacing x = new SignalSpacing();
        CHECK.due("5: setBarred(3, 5, true)", x.setBarred(3, 5, true), 3);
        CHECK.due("5: all barred ones of the line count", x.setBarred(5, 8, true), 6);
        CHECK.due("5: isBarred(2)", x.isBarred(2), false);
        CHECK.due("5: isBarred(3)", x.isBarred(3), true);
        CHECK.due("5: isBarred(8)", x.isBarred(8), true);
        CHECK.due("5: isBarred(9)", x.isBarred(9), false);
        CHECK.due("5: some free again", x.setBarred(4, 6, false), 3);
        CHECK.due("5: isBarred(4)", x.isBarred(4), false);
        CHECK.due("5: both ends", x.setBarred(0, 60, true), 61);
        CHECK.due("5: the last one free", x.setBarred(60, 60, false), 60);
        CHECK.due("5: all free", x.setBarred(0, 60, false), 0);
        int[][] wrong = {{-1, 5}, {0, 61}, {5, 4}, {61, 61}, {0, -1}, {LEAST, 0}, {0, MOST}, {MOST, LEAST}};
        for (int[] w : wrong) {
            CHECK.refused("5: setBarred(" + w[0] + ", " + w[1] + ", true)", x, ARGUMENT,
                () -> x.setBarred(w[0], w[1], true));
        }
        x.setLength(120);
        x.setBarred(0, 120, true);
        x.setLength(10);
        CHECK.due("5: only positions of this line count", x.setBarred(0, 10, true), 11);
        undoable("5", PromiseTest::fill, y -> y.setBarred(0, 30, true));
        undoable("5: nothing changes", PromiseTest::fill, y -> y.setBarred(5, 7, true));
    }

    private static void setRequired() {
        SignalSpacing x = new SignalSpacing();
        CHECK.due("6: setRequired(7, true)", x.setRequired(7, true), false);
        CHECK.due("6: setRequired(7, true) again", x.setRequired(7, true), true);
        violations("6: 7 is required", x, 2000, 2007, 2060);
        CHECK.due("6: setRequired(7, false)", x.setRequired(7, false), true);
        CHECK.due("6: setRequired(7, false) again", x.setRequired(7, false), false);
        CHECK.due("6: setRequired(0, true)", x.setRequired(0, true), false);
        CHECK.due("6: setRequired(60, true)", x.setRequired(60, true), false);
        violations("6: the ends are missing once each", x, 2000, 2060);
        x.setRequired(0, false);
        x.setRequired(60, false);
        CHECK.due("6: nothing is required any more", x.digest(), plainDigest(4, 60, 80, 20, 4, 3, 4, 40, 6, 1));
        for (int position : new int[] {-1, 61, LEAST, MOST}) {
            CHECK.refused("6: setRequired(" + position + ", true)", x, ARGUMENT,
                () -> x.setRequired(position, true) ? 1 : 0);
        }
        undoable("6", PromiseTest::fill, y -> y.setRequired(30, true));
        undoable("6: nothing changes", PromiseTest::fill, y -> y.setRequired(9, true));
    }

    private static void setTrain() {
        SignalSpacing x = new SignalSpacing();
        CHECK.due("7: setTrain(50, 0, 1)", x.setTrain(50, 0, 1), 80);
        CHECK.due("7: the digest tells all three", x.digest(), digestOf(1, 50, 0, 1, 3, 4, 40, 6, 1, 10));
        CHECK.due("7: setTrain(200, 100, 20)", x.setTrain(200, 100, 20), 50);
        CHECK.due("7: the digest tells all three again", x.digest(), digestOf(2, 200, 100, 20, 3, 4, 40, 6, 1, 8));
        CHECK.due("7: a train of its own", x.setTrain(80, 20, 4), 200);
        int[][] wrong = {{49, 20, 4}, {201, 20, 4}, {80, -1, 4}, {80, 101, 4}, {80, 20, 0}, {80, 20, 21},
            {LEAST, 20, 4}, {MOST, 20, 4}, {80, LEAST, 4}, {80, MOST, 4}, {80, 20, LEAST}, {80, 20, MOST}};
        for (int[] w : wrong) {
            CHECK.refused("7: setTrain(" + w[0] + ", " + w[1] + ", " + w[2] + ")", x, ARGUMENT,
                () -> x.setTrain(w[0], w[1], w[2]));
        }
        undoable("7", PromiseTest::fill, y -> y.setTrain(100, 30, 7));
        undoable("7: nothing changes", PromiseTest::fill, y -> y.setTrain(80, 20, 4));
    }

    private static void setRules() {
        SignalSpacing x = new SignalSpacing();
        CHECK.due("8: setRules(2, 1, 1)", x.setRules(2, 1, 1), 3);
        CHECK.due("8: setRules(4, 120, 120)", x.setRules(4, 120, 120), 2);
        CHECK.due("8: setRules(3, 5, 50)", x.setRules(3, 5, 50), 4);
        CHECK.due("8: the digest tells all three", x.digest(), digestOf(3, 80, 20, 4, 3, 5, 50, 6, 1, 8));
        int[][] wrong = {{1, 4, 40}, {5, 4, 40}, {3, 0, 40}, {3, 41, 40}, {3, 4, 121}, {3, 0, 0}, {3, 1, 0},
            {LEAST, 4, 40}, {MOST, 4, 40}, {3, LEAST, 40}, {3, MOST, 40}, {3, 4, LEAST}, {3, 4, MOST},
            {3, 121, 121}, {3, MOST, MOST}, {3, -5, -4}};
        for (int[] w : wrong) {
            CHECK.refused("8: setRules(" + w[0] + ", " + w[1] + ", " + w[2] + ")", x, ARGUMENT,
                () -> x.setRules(w[0], w[1], w[2]));
        }
        undoable("8", PromiseTest::fill, y -> y.setRules(4, 5, 50));
        undoable("8: nothing changes", PromiseTest::fill, y -> y.setRules(3, 4, 40));
    }

    private static void setSight() {
        SignalSpacing x = new SignalSpacing();
        CHECK.due("9: setSight(0, 0)", x.setSight(0, 0), 6);
        CHECK.due("9: setSight(40, 20)", x.setSight(40, 20), 0);
        CHECK.due("9: setSight(7, 2)", x.setSight(7, 2), 40);
        CHECK.due("9: the digest tells both", x.digest(), digestOf(3, 80, 20, 4, 3, 4, 40, 7, 2, 8));
        int[][] wrong = {{-1, 1}, {41, 1}, {6, -1}, {6, 21}, {LEAST, 1}, {MOST, 1}, {6, LEAST}, {6, MOST}};
        for (int[] w : wrong) {
            CHECK.refused("9: setSight(" + w[0] + ", " + w[1] + ")", x, ARGUMENT, () -> x.setSight(w[0], w[1]));
        }
        undoable("9", PromiseTest::fill, y -> y.setSight(10, 10));
        undoable("9: nothing changes", PromiseTest::fill, y -> y.setSight(6, 1));
    }

    // ---- promises 10 to 16

    private static void limit() {
        SignalSpacing x = line(120);
        x.setLimit(0, 0, 20);
        x.setLimit(119, 119, 160);
        CHECK.due("10: limit(0)", x.limit(0), 20);
        CHECK.due("10: limit(1)", x.limit(1), 80);
        CHECK.due("10: limit(119)", x.limit(119), 160);
        for (int cell : new int[] {-1, 120, LEAST, MOST}) {
            CHECK.refused("10: limit(" + cell + ")", x, INDEX, () -> x.limit(cell));
        }
        saves("10: limit saves nothing", x, 3);
        SignalSpacing y = line(10);
        CHECK.refused("10: limit(10) of a short line", y, INDEX, () -> y.limit(10));
    }

    private static void gradient() {
        SignalSpacing x = line(120);
        x.setGradient(0, 0, -40);
        x.setGradient(119, 119, 40);
        CHECK.due("11: gradient(0)", x.gradient(0), -40);
        CHECK.due("11: gradient(1)", x.gradient(1), 0);
        CHECK.due("11: gradient(119)", x.gradient(119), 40);
        for (int cell : new int[] {-1, 120, LEAST, MOST}) {
            CHECK.refused("11: gradient(" + cell + ")", x, INDEX, () -> x.gradient(cell));
        }
        saves("11: gradient saves nothing", x, 3);
        SignalSpacing y = line(10);
        CHECK.refused("11: gradient(10) of a short line", y, INDEX, () -> y.gradient(10));
    }

    private static void isBarred() {
        SignalSpacing x = line(120);
        x.setBarred(0, 0, true);
        x.setBarred(120, 120, true);
        CHECK.due("12: isBarred(0)", x.isBarred(0), true);
        CHECK.due("12: isBarred(1)", x.isBarred(1), false);
        CHECK.due("12: isBarred(120)", x.isBarred(120), true);
        for (int position : new int[] {-1, 121, LEAST, MOST}) {
            CHECK.refused("12: isBarred(" + position + ")", x, INDEX, () -> x.isBarred(position) ? 1 : 0);
        }
        saves("12: isBarred saves nothing", x, 3);
        SignalSpacing y = line(10);
        CHECK.due("12: isBarred(10) of a short line", y.isBarred(10), false);
        CHECK.refused("12: isBarred(11) of a short line", y, INDEX, () -> y.isBarred(11) ? 1 : 0);
    }

    private static void energy() {
        SignalSpacing x = line(20);
        x.setLimit(19, 19, 40);
        // A cell takes 162 * 800 = 129600, and 40 km/h are 125 * 1600.
        CHECK.due("13: energy(20)", x.energy(20), 200000);
        CHECK.due("13: energy(19)", x.energy(19), 200000);
        CHECK.due("13: energy(18)", x.energy(18), 329600);
        CHECK.due("13: energy(15)", x.energy(15), 718400);
        CHECK.due("13: energy(14)", x.energy(14), 800000);
        x.setGradient(18, 18, 10);
        CHECK.due("13: uphill", x.energy(18), 345800);
        CHECK.due("13: before the hill", x.energy(17), 475400);
        x.setGradient(18, 18, -40);
        CHECK.due("13: downhill", x.energy(18), 264800);
        x.setTrain(50, 20, 4);
        CHECK.due("13: the weakest brakes downhill", x.energy(18), 216200);
        x.setTrain(200, 20, 4);
        CHECK.due("13: the strongest brakes downhill", x.energy(18), 459200);
        x.setLimit(0, 19, 160);
        CHECK.due("13: the greatest energy", x.energy(0), 3200000);
        for (int position : new int[] {-1, 21, LEAST, MOST}) {
            CHECK.refused("13: energy(" + position + ")", x, INDEX, () -> x.energy(position));
        }
        saves("13: the stack is full", x, 4);
    }

    private static void profileSpeed() {
        SignalSpacing x = line(20);
        x.setLimit(10, 19, 20);
        // 50000 at position 10: 179600 before it are 125 * 1436.8, and 37 * 37 = 1369, 38 * 38 = 1444.
        CHECK.due("14: profileSpeed(10)", x.profileSpeed(10), 20);
        CHECK.due("14: profileSpeed(20)", x.profileSpeed(20), 20);
        CHECK.due("14: profileSpeed(9)", x.profileSpeed(9), 37);
        CHECK.due("14: profileSpeed(8)", x.profileSpeed(8), 49);
        CHECK.due("14: profileSpeed(0)", x.profileSpeed(0), 80);
        x.setTrain(200, 20, 4);
        // 374000 = 125 * 2992: 54 * 54 = 2916, 55 * 55 = 3025.
        CHECK.due("14: with stronger brakes", x.profileSpeed(9), 54);
        for (int speed = 20; speed <= 160; speed++) {
            x.setLimit(0, 19, speed);
            CHECK.due("14: at its limit of " + speed, x.profileSpeed(0), speed);
        }
        for (int position : new int[] {-1, 21, LEAST, MOST}) {
            CHECK.refused("14: profileSpeed(" + position + ")", x, INDEX, () -> x.profileSpeed(position));
        }
        SignalSpacing y = line(10);
        y.setLimit(9, 9, 20);
        y.setTrain(50, 0, 1);
        y.setGradient(8, 8, 0);
        // 50000 + 81000 = 125 * 1048: 32 * 32 = 1024, 33 * 33 = 1089.
        CHECK.due("14: rounded down", y.profileSpeed(8), 32);
        saves("14: profileSpeed saves nothing", y, 4);
    }

    private static void brakingDistance() {
        SignalSpacing x = line(20);
        CHECK.due("15: 1 cell of reaction and 7 of braking", x.brakingDistance(0), 8);
        CHECK.due("15: at the end of the line", x.brakingDistance(20), 8);
        x.setTrain(80, 0, 4);
        CHECK.due("15: no reaction", x.brakingDistance(0), 7);
        x.setTrain(80, 22, 4);
        CHECK.due("15: 1760 of 1800 are one cell", x.brakingDistance(0), 8);
        x.setTrain(80, 23, 4);
        CHECK.due("15: 1840 of 1800 are two cells", x.brakingDistance(0), 9);
        x.setTrain(80, 20, 4);
        x.setLimit(0, 19, 90);
        CHECK.due("15: 1800 of 1800 are one cell", x.brakingDistance(0), 9);
        x.setTrain(80, 98, 4);
        x.setLimit(0, 19, 147);
        CHECK.due("15: 14406 of 1800 are nine cells", x.brakingDistance(0), 9 + 21);
        x.setTrain(50, 0, 4);
        x.setLimit(0, 19, 36);
        CHECK.due("15: two cells take the energy to the last", x.brakingDistance(0), 2);
        x.setLimit(0, 19, 37);
        CHECK.due("15: two cells do not take it", x.brakingDistance(0), 3);
        for (int position : new int[] {-1, 21, LEAST, MOST}) {
            CHECK.refused("15: brakingDistance(" + position + ")", x, INDEX, () -> x.brakingDistance(position));
        }
        x.setLimit(0, 19, 160);
        x.setTrain(50, 100, 4);
        x.setGradient(0, 19, -40);
        CHECK.due("15: the longest: 9 cells and 3200000 / 16200", x.brakingDistance(20), 9 + 198);
        gradientsOfBrakingDistance();
    }

    private static void gradientsOfBrakingDistance() {
        SignalSpacing x = line(40);
        x.setGradient(0, 0, -40);
        CHECK.due("15: the cell of the reaction takes nothing", x.brakingDistance(0), 8);
        x.setGradient(1, 7, -40);
        // 64800 in each of seven cells, and then 129600 in each of three: 842400.
        CHECK.due("15: seven cells downhill", x.brakingDistance(0), 1 + 7 + 3);
        SignalSpacing y = line(40);
        y.setGradient(39, 39, 40);
        CHECK.due("15: behind the line the last cell goes on", y.brakingDistance(40), 1 + 5);
        CHECK.due("15: at its begin", y.brakingDistance(39), 1 + 5);
        CHECK.due("15: a cell before it", y.brakingDistance(38), 1 + 5);
        CHECK.due("15: some cells before it", y.brakingDistance(34), 1 + 6);
        saves("15: brakingDistance saves nothing", y, 2);
    }

    private static void travelTime() {
        SignalSpacing x = line(20);
        CHECK.due("16: travelTime(0, 20)", x.travelTime(0, 20), 45000);
        CHECK.due("16: travelTime(7, 7)", x.travelTime(7, 7), 0);
        CHECK.due("16: travelTime(20, 20)", x.travelTime(20, 20), 0);
        CHECK.due("16: travelTime(19, 20)", x.travelTime(19, 20), 2250);
        x.setLimit(0, 19, 70);
        CHECK.due("16: each cell is rounded up", x.travelTime(3, 6), 3 * 2572);
        x.setLimit(10, 19, 20);
        CHECK.due("16: the speed at the begin of a cell counts", x.travelTime(9, 11), 4865 + 9000);
        x.setLength(120);
        x.setLimit(0, 119, 20);
        CHECK.due("16: the longest", x.travelTime(0, 120), 1080000);
        int[][] wrong = {{-1, 5}, {0, 121}, {5, 4}, {121, 121}, {LEAST, MOST}, {0, MOST}, {MOST, LEAST}};
        for (int[] w : wrong) {
            CHECK.refused("16: travelTime(" + w[0] + ", " + w[1] + ")", x, ARGUMENT, () -> x.travelTime(w[0], w[1]));
        }
        SignalSpacing y = line(10);
        y.travelTime(0, 10);
        CHECK.refused("16: travelTime(0, 11) of a short line", y, ARGUMENT, () -> y.travelTime(0, 11));
        saves("16: travelTime saves nothing", y, 1);
    }

    // ---- promises 17 to 23

    private static void addPost() {
        SignalSpacing x = line(20);
        CHECK.due("17: addPost(10)", x.addPost(10), 0);
        CHECK.due("17: addPost(20)", x.addPost(20), 1);
        CHECK.due("17: addPost(0)", x.addPost(0), 0);
        CHECK.due("17: addPost(15)", x.addPost(15), 2);
        layout("17", x, 0, 10, 15, 20);
        for (int position : new int[] {-1, 21, LEAST, MOST}) {
            CHECK.refused("17: addPost(" + position + ")", x, ARGUMENT, () -> x.addPost(position));
        }
        for (int position : new int[] {0, 10, 15, 20}) {
            CHECK.refused("17: addPost(" + position + ") again", x, STATE, () -> x.addPost(position));
        }
        layout("17: after the exceptions", x, 0, 10, 15, 20);
        SignalSpacing y = line(120);
        y.setBarred(0, 120, true);
        for (int position = 120; position >= 0; position--) {
            CHECK.due("17: addPost(" + position + "), barred", y.addPost(position), 0);
        }
        CHECK.due("17: a post at each position", y.posts(), 121);
        undoable("17", PromiseTest::fill, z -> z.addPost(30));
    }

    private static void removePost() {
        SignalSpacing x = withPosts(20, 0, 5, 10, 15, 20);
        CHECK.due("18: removePost(10)", x.removePost(10), 4);
        layout("18: without 10", x, 0, 5, 15, 20);
        CHECK.due("18: removePost(20)", x.removePost(20), 3);
        CHECK.due("18: removePost(0)", x.removePost(0), 2);
        layout("18: without the ends", x, 5, 15);
        for (int position : new int[] {-1, 21, LEAST, MOST}) {
            CHECK.refused("18: removePost(" + position + ")", x, ARGUMENT, () -> x.removePost(position));
        }
        for (int position : new int[] {0, 6, 10, 20}) {
            CHECK.refused("18: removePost(" + position + ")", x, STATE, () -> x.removePost(position));
        }
        CHECK.due("18: removePost(5)", x.removePost(5), 1);
        CHECK.due("18: removePost(15)", x.removePost(15), 0);
        layout("18: none is left", x);
        undoable("18", PromiseTest::fill, y -> y.removePost(9));
    }

    private static void clearPosts() {
        SignalSpacing x = withPosts(20, 0, 10, 20);
        CHECK.due("19: clearPosts()", x.clearPosts(), 3);
        layout("19", x);
        CHECK.due("19: clearPosts() again", x.clearPosts(), 0);
        CHECK.due("19: addPost(7) afterwards", x.addPost(7), 0);
        layout("19: afterwards", x, 7);
        undoable("19", PromiseTest::fill, y -> y.clearPosts());
        undoable("19: nothing changes", y -> { }, y -> y.clearPosts());
    }

    private static void posts() {
        SignalSpacing x = line(10);
        CHECK.due("20: posts() at first", x.posts(), 0);
        for (int position = 0; position <= 10; position++) {
            x.addPost(position);
            CHECK.due("20: posts()", x.posts(), position + 1);
        }
        CHECK.due("20: posts() again", x.posts(), 11);
        x.undo();
        CHECK.due("20: posts() after undo()", x.posts(), 10);
        saves("20: posts saves nothing", x, 3);
    }

    private static void post() {
        SignalSpacing x = withPosts(20, 20, 3);
        CHECK.due("21: post(0)", x.post(0), 3);
        CHECK.due("21: post(1)", x.post(1), 20);
        for (int index : new int[] {-1, 2, LEAST, MOST}) {
            CHECK.refused("21: post(" + index + ")", x, INDEX, () -> x.post(index));
        }
        x.removePost(20);
        CHECK.refused("21: post(1) of one", x, INDEX, () -> x.post(1));
        SignalSpacing y = new SignalSpacing();
        CHECK.refused("21: post(0) of none", y, INDEX, () -> y.post(0));
    }

    private static void violationCount() {
        CHECK.due("22: no post", line(20).violationCount(), 2);
        CHECK.due("22: a valid layout", withPosts(20, 0, 10, 20).violationCount(), 0);
        SignalSpacing x = line(120);
        x.setRules(2, 10, 10);
        x.setSight(0, 0);
        x.setBarred(0, 120, true);
        for (int position = 0; position <= 120; position++) {
            x.addPost(position);
        }
        CHECK.due("22: three at each post but the first", x.violationCount(), 1 + 3 * 120);
        CHECK.due("22: the last one", x.violation(360), 5120);
        CHECK.refused("22: one more", x, INDEX, () -> x.violation(361));
        saves("22: violationCount saves nothing", withPosts(20, 0, 20), 3);
    }

    private static void violation() {
        SignalSpacing x = withPosts(40, 3, 5, 30);
        x.setRules(3, 4, 20);
        x.setBarred(5, 5, true);
        x.setRequired(20, true);
        x.setRequired(30, true);
        violations("23: each kind, by position and then by kind", x, 2000, 5003, 1005, 3005, 2020, 4030, 2040);
        for (int index : new int[] {-1, 7, LEAST, MOST}) {
            CHECK.refused("23: violation(" + index + ")", x, INDEX, () -> x.violation(index));
        }
        x.setBarred(30, 30, true);
        violations("23: BARRED comes before LONG", x, 2000, 5003, 1005, 3005, 2020, 1030, 4030, 2040);
        SignalSpacing y = withPosts(20, 0, 10, 20);
        CHECK.refused("23: violation(0) of none", y, INDEX, () -> y.violation(0));
    }

    private static void violationEdges() {
        SignalSpacing x = withPosts(40, 0, 10, 40);
        x.setRules(3, 10, 30);
        violations("23: gaps of just the minimum and the maximum", x);
        x.setRules(3, 11, 29);
        violations("23: gaps of one less and one more", x, 3010, 4040);
        x.setRequired(0, true);
        x.setRequired(40, true);
        x.clearPosts();
        violations("23: a required end is missing once", x, 2000, 2040);
        x.setBarred(0, 40, true);
        violations("23: a missing post is not barred", x, 2000, 2040);
        threeAspects();
        fourAspects();
        twoAspects();
    }

    // The braking distance is 8 cells everywhere in these.
    private static void threeAspects() {
        SignalSpacing x = withPosts(40, 0, 8, 15, 35, 40);
        violations("23: three aspects look at the next post", x, 5008, 5035);
        x.setTrain(80, 0, 4);
        violations("23: seven cells are enough", x, 5035);
        x.removePost(40);
        violations("23: the last post has none behind it", x, 2040);
    }

    private static void fourAspects() {
        SignalSpacing x = withPosts(40, 0, 4, 8, 11, 40);
        x.setRules(4, 1, 40);
        violations("23: four aspects look at the next post but one", x, 5004);
        x.setTrain(80, 0, 4);
        violations("23: seven cells between 4 and 11 are enough", x);
        x.setRules(3, 1, 40);
        violations("23: three aspects want more", x, 5000, 5004, 5008);
        x.setRules(4, 1, 40);
        x.removePost(40);
        x.setTrain(50, 100, 4);
        violations("23: the last two posts have no such post", x, 5000, 5004, 2040);
    }

    private static void twoAspects() {
        SignalSpacing x = withPosts(40, 0, 5, 20, 40);
        x.setRules(2, 1, 40);
        x.setSight(8, 1);
        violations("23: two aspects look at the sighting distance, 5 cells of which are on the line", x, 5005);
        x.setSight(7, 1);
        violations("23: it is too short by one", x, 5005, 5020, 5040);
        x.setSight(40, 1);
        violations("23: the line begins before it ends", x, 5005);
        x.removePost(0);
        violations("23: the first post has no such rule", x, 2000);
        x.setSight(0, 1);
        violations("23: no sight at all", x, 2000, 5020, 5040);
    }

    // ---- promises 24 to 28

    private static void fewestPosts() {
        SignalSpacing x = line(20);
        CHECK.due("24: both ends", x.fewestPosts(), 2);
        CHECK.due("24: the layout stays", x.posts(), 0);
        x.setRules(3, 4, 12);
        CHECK.due("24: a post between them", x.fewestPosts(), 3);
        x.setRules(3, 4, 8);
        CHECK.due("24: gaps of 8 cannot make 20", x.fewestPosts(), SignalSpacing.NONE);
        x.setRules(3, 20, 20);
        CHECK.due("24: a gap as long as the line", x.fewestPosts(), 2);
        x.setRules(3, 21, 21);
        CHECK.due("24: no gap fits", x.fewestPosts(), SignalSpacing.NONE);
        x.setRules(4, 1, 1);
        CHECK.due("24: four aspects with gaps of one", x.fewestPosts(), SignalSpacing.NONE);
        SignalSpacing y = withPosts(20, 0, 3);
        long digest = y.digest();
        y.fewestPosts();
        CHECK.due("24: nothing changes", y.digest(), digest);
        SignalSpacing z = line(120);
        z.setLimit(0, 119, 20);
        z.setTrain(200, 0, 1);
        z.setRules(3, 1, 1);
        CHECK.due("24: a post at each position", z.fewestPosts(), 121);
        CHECK.due("25: a post at each position", z.design(), 121);
        for (int position = 0; position <= 120; position++) {
            CHECK.due("25: post(" + position + ") at each position", z.post(position), position);
        }
        z.setBarred(0, 0, true);
        CHECK.due("24: the first position is barred", z.fewestPosts(), SignalSpacing.NONE);
    }

    private static void bestLayouts() {
        SignalSpacing x = new SignalSpacing();
        designs("25: the first one of those with three posts", x, 0, 20, 60);
        x.setBarred(20, 23, true);
        designs("25: not at a barred position", x, 0, 24, 60);
        x.setRequired(30, true);
        designs("25: a required position", x, 0, 30, 60);
        x.setRequired(32, true);
        cannotDesign("25: two required positions are too near", x);
        x.setRules(3, 1, 40);
        cannotDesign("25: the braking distance is longer than this gap", x);
        x.setRules(4, 2, 40);
        designs("25: four aspects allow it", x, 0, 30, 32, 60);
        x.setRules(4, 3, 40);
        cannotDesign("25: a gap between required positions is too short", x);
        x.setRules(4, 2, 26);
        designs("25: the post behind 32 is eight cells from 30", x, 0, 4, 30, 32, 38, 60);
        barredAndRequired();
        brakingInLayouts();
        requiredForTwoAspects();
        afterEachChange();
    }

    private static void barredAndRequired() {
        SignalSpacing x = line(20);
        x.setRequired(10, true);
        x.setBarred(10, 10, true);
        cannotDesign("25: required and barred", x);
        x.setBarred(10, 10, false);
        x.setBarred(20, 20, true);
        cannotDesign("25: the last position is barred", x);
        x.setBarred(20, 20, false);
        x.setRequired(0, true);
        x.setRequired(20, true);
        designs("25: the ends are required anyway", x, 0, 10, 20);
    }

    private static void requiredForTwoAspects() {
        SignalSpacing x = line(20);
        x.setRules(2, 1, 40);
        x.setSight(8, 1);
        x.setRequired(10, true);
        x.setRequired(12, true);
        x.setRequired(13, true);
        designs("25: two aspects have no rule from post to post", x, 0, 10, 12, 13, 20);
    }

    private static void afterEachChange() {
        SignalSpacing x = line(20);
        x.design();
        x.setTrain(50, 100, 4);
        // 5 cells of reaction and 10 of braking, looked at first by these calls.
        x.setRules(3, 1, 14);
        CHECK.refused("25: with weaker brakes", x, STATE, () -> x.design());
        SignalSpacing y = line(20);
        y.setRules(3, 1, 14);
        y.setTrain(50, 100, 4);
        boolean isRefused = false;
        try {
            y.design();
        } catch (IllegalStateException e) {
            isRefused = true;
        }
        CHECK.due("25: design() as the first look at the line", isRefused, true);
        SignalSpacing z = withPosts(20, 0, 14, 20);
        z.setTrain(50, 100, 4);
        CHECK.due("23: violation(0) as the first look at the line", z.violation(0), 5000);
    }

    private static void brakingInLayouts() {
        SignalSpacing x = line(20);
        x.setRules(4, 1, 6);
        // Four gaps are enough: the first may be as short as 2, for 8 - 0 makes the braking distance.
        designs("25: four aspects", x, 0, 2, 8, 14, 20);
        x.setRules(4, 1, 4);
        designs("25: gaps of four make just eight", x, 0, 4, 8, 12, 16, 20);
        x.setRules(3, 1, 10);
        designs("25: three aspects", x, 0, 10, 20);
        x.setRules(3, 1, 9);
        cannotDesign("25: three aspects want gaps of eight", x);
        x.setRules(2, 1, 9);
        cannotDesign("25: two aspects see six cells", x);
        x.setSight(8, 1);
        designs("25: two aspects see eight cells", x, 0, 8, 11, 20);
        x.setBarred(8, 8, true);
        x.setBarred(11, 11, true);
        designs("25: two aspects and barred positions", x, 0, 9, 12, 20);
    }

    private static void design() {
        SignalSpacing x = withPosts(20, 1, 2, 3, 4, 5);
        CHECK.due("25: design()", x.design(), 2);
        layout("25: in the place of the present layout", x, 0, 20);
        CHECK.due("25: design() again", x.design(), 2);
        layout("25: the same", x, 0, 20);
        x.undo();
        x.undo();
        layout("25: as before both", x, 1, 2, 3, 4, 5);
        x.setRules(3, 21, 21);
        cannotDesign("25: none", x);
        layout("25: nothing has changed", x, 1, 2, 3, 4, 5);
        undoable("25", PromiseTest::fill, y -> y.design());
        undoable("25: nothing changes", y -> y.design(), y -> y.design());
    }

    private static void blockTime() {
        SignalSpacing x = withPosts(60, 0, 20, 30, 45, 60);
        // Six cells of sight, one of overlap and four of train, at 2250 milliseconds a cell.
        CHECK.due("26: from the begin of the line", x.blockTime(0), (30 + 5) * 2250);
        CHECK.due("26: blockTime(1)", x.blockTime(1), (45 - 20 + 11) * 2250);
        CHECK.due("26: to the end of the line", x.blockTime(2), (60 - 24) * 2250);
        CHECK.due("26: blockTime(3)", x.blockTime(3), SignalSpacing.NONE);
        CHECK.due("26: blockTime(4)", x.blockTime(4), SignalSpacing.NONE);
        x.setRules(2, 4, 40);
        CHECK.due("26: two aspects", x.blockTime(0), 25 * 2250);
        CHECK.due("26: two aspects at the last but one", x.blockTime(3), (60 - 39) * 2250);
        x.setRules(4, 4, 40);
        CHECK.due("26: four aspects", x.blockTime(0), 50 * 2250);
        CHECK.due("26: four aspects have none", x.blockTime(2), SignalSpacing.NONE);
        x.setSight(20, 3);
        x.setTrain(80, 20, 7);
        x.setRules(2, 4, 40);
        CHECK.due("26: sight, overlap and train", x.blockTime(1), 40 * 2250);
        for (int index : new int[] {-1, 5, LEAST, MOST}) {
            CHECK.refused("26: blockTime(" + index + ")", x, INDEX, () -> x.blockTime(index));
        }
        SignalSpacing y = new SignalSpacing();
        CHECK.refused("26: blockTime(0) of none", y, INDEX, () -> y.blockTime(0));
    }

    private static void headway() {
        SignalSpacing x = withPosts(60, 0, 20, 30, 45, 60);
        CHECK.due("27: the greatest", x.headway(), 36 * 2250);
        x.setLimit(0, 10, 40);
        CHECK.due("27: another is the greatest", x.headway(), x.blockTime(0));
        CHECK.due("27: it is greater", x.blockTime(0) > x.blockTime(1), true);
        SignalSpacing y = withPosts(60, 0, 60);
        CHECK.due("27: two posts are too few for three aspects", y.headway(), SignalSpacing.NONE);
        y.setRules(2, 1, 60);
        CHECK.due("27: they are enough for two", y.headway(), 135000);
        CHECK.due("27: no post", new SignalSpacing().headway(), SignalSpacing.NONE);
        saves("27: headway saves nothing", y, 4);
    }

    private static void capacity() {
        SignalSpacing x = withPosts(60, 0, 20, 30, 45, 60);
        // 3600000 / 81000 = 44.4
        CHECK.due("28: rounded down", x.capacity(), 44);
        SignalSpacing y = withPosts(40, 0, 20, 40);
        CHECK.due("28: no remainder", y.capacity(), 40);
        y.removePost(20);
        CHECK.refused("28: too few posts", y, STATE, () -> y.capacity());
        SignalSpacing z = new SignalSpacing();
        CHECK.refused("28: no post", z, STATE, () -> z.capacity());
    }

    // ---- promises 29 and 30

    private static void undo() {
        SignalSpacing x = new SignalSpacing();
        long[] digests = new long[7];
        for (int i = 0; i < 7; i++) {
            digests[i] = x.digest();
            x.addPost(10 * i);
        }
        // The digests of four saved states or more have the same number in front.
        CHECK.due("29: undo()", x.undo(), 3);
        CHECK.due("29: undo() again", x.undo(), 2);
        layout("29: two are gone", x, 0, 10, 20, 30, 40);
        x.addPost(55);
        CHECK.due("29: a new state after two undos", x.undo(), 2);
        CHECK.due("29: undo(), one left", x.undo(), 1);
        CHECK.due("29: undo(), none left", x.undo(), 0);
        layout("29: the oldest that is kept", x, 0, 10, 20);
        CHECK.refused("29: undo() of none", x, STATE, () -> x.undo());
        CHECK.due("29: calls that throw save nothing", x.setLength(60), 60);
        CHECK.refused("29: a wrong call between", x, ARGUMENT, () -> x.setLength(9));
        CHECK.due("29: undo() of setLength", x.undo(), 0);
        layout("29: the posts are back", x, 0, 10, 20);
        undoOfAll();
    }

    private static void undoOfAll() {
        SignalSpacing x = new SignalSpacing();
        x.setLimit(0, 9, 50);
        x.setGradient(0, 9, 5);
        x.setBarred(3, 4, true);
        x.setRequired(6, true);
        add(x, 0, 6, 60);
        long digest = x.digest();
        x.setLength(120);
        x.setTrain(50, 0, 1);
        x.setRules(2, 1, 1);
        x.setSight(0, 0);
        for (int left = 3; left >= 0; left--) {
            CHECK.due("29: undo() of all", x.undo(), left);
        }
        CHECK.due("29: limit(9)", x.limit(9), 50);
        CHECK.due("29: gradient(9)", x.gradient(9), 5);
        CHECK.due("29: isBarred(4)", x.isBarred(4), true);
        CHECK.due("29: setRequired(6)", x.setRequired(6, true), true);
        layout("29: posts", x, 0, 6, 60);
        x.setTrain(80, 20, 4);
        x.setRules(3, 4, 40);
        x.setSight(6, 1);
        CHECK.due("29: the same state with four saved ones", x.digest(), digest);
    }

    private static void digest() {
        SignalSpacing x = new SignalSpacing();
        CHECK.due("30: a new object", x.digest(), plainDigest(0, 60, 80, 20, 4, 3, 4, 40, 6, 1));
        CHECK.due("30: digest() changes nothing", x.digest(), plainDigest(0, 60, 80, 20, 4, 3, 4, 40, 6, 1));
        x.setLength(10);
        x.setLimit(9, 9, 40);
        x.setGradient(8, 8, 10);
        x.setBarred(4, 5, true);
        x.setRequired(7, true);
        add(x, 0, 4, 10);
        x.undo();
        CHECK.due("30: before the last post", x.digest(),
            mix(lineOfTenDigest(3), 2, 0, 4, 4, 5000, 1004, 2007, 2010, -1, travelTimeOfTen()));
        x.addPost(10);
        CHECK.due("30: after it", x.digest(),
            mix(lineOfTenDigest(4), 3, 0, 4, 10, 4, 5000, 1004, 5004, 2007, travelTimeOfTen(), travelTimeOfTen()));
    }

    private static long mix(long start, long... values) {
        long h = start;
        for (long v : values) {
            h = 31 * h + v;
        }
        return h;
    }

    /** A line of ten cells: limit 40 in cell 9, 10 per mille in cell 8, 4 and 5 barred, 7 required. */
    private static long lineOfTenDigest(int states) {
        long h = mix(12211, states, 10, 80, 20, 4, 3, 4, 40, 6, 1);
        for (int cell = 0; cell < 10; cell++) {
            h = mix(h, cell == 9 ? 40 : 80, cell == 8 ? 10 : 0);
        }
        // From the end: 200000, the same, + 145800, + 129600 each, until 800000 hold.
        long[] energies = {800000, 800000, 800000, 800000, 800000, 734600, 605000, 475400, 345800, 200000, 200000};
        // A cell of reaction, and as many behind it as take the energy.
        int[] distances = {8, 8, 8, 8, 8, 7, 6, 5, 4, 3, 3};
        for (int position = 0; position <= 10; position++) {
            h = mix(h, position == 4 || position == 5 ? 1 : 0, position == 7 ? 1 : 0, energies[position],
                distances[position]);
        }
        return h;
    }

    /** Five cells at 80 km/h, then 76, 69, 61, 52 and 40. */
    private static long travelTimeOfTen() {
        return 5 * 2250 + 2369 + 2609 + 2951 + 3462 + 4500;
    }

    private static long plainDigest(int states, int cells, int rate, int reaction, int length, int... rules) {
        return digestOfPlain(cells, states, rate, reaction, length, rules, brakingAtEighty(rate, reaction));
    }

    /** A line of 60 cells as it is at first, without posts; the last value is the braking distance. */
    private static long digestOf(int states, int rate, int reaction, int length, int... rulesAndDistance) {
        int[] rules = java.util.Arrays.copyOf(rulesAndDistance, 5);
        return digestOfPlain(60, states, rate, reaction, length, rules, rulesAndDistance[5]);
    }

    private static int brakingAtEighty(int rate, int reaction) {
        return (80 * reaction + 1799) / 1800 + (800000 + 1620 * rate - 1) / (1620 * rate);
    }

    private static long digestOfPlain(int cells, int states, int rate, int reaction, int length, int[] rules,
        int distance) {
        long h = mix(12211, states, cells, rate, reaction, length);
        for (int rule : rules) {
            h = mix(h, rule);
        }
        for (int cell = 0; cell < cells; cell++) {
            h = mix(h, 80, 0);
        }
        for (int position = 0; position <= cells; position++) {
            h = mix(h, 0, 0, 800000, distance);
        }
        return mix(h, 0, 2, 2000, 2000 + cells, -1, 2250L * cells);
    }
}
