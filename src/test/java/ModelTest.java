import java.util.Random;

/** Runs of calls drawn from fixed seeds, each answer compared with the one of the model. */
public final class ModelTest {
    private static final Check CHECK = new Check();
    private static final int RUNS = 1500;
    private static final int CALLS = 240;
    private static final int[] WILD = {Integer.MIN_VALUE, Integer.MIN_VALUE + 1, -1000, -2, -1, 121, 122, 1000,
        Integer.MAX_VALUE - 1, Integer.MAX_VALUE};

    private final Random random;
    private final SignalSpacing x = new SignalSpacing();
    private final Model model = new Model();
    private final boolean isWild;

    private ModelTest(long seed) {
        random = new Random(seed);
        isWild = seed % 3 == 0;
    }

    public static void main(String[] args) {
        for (int seed = 0; seed < RUNS; seed++) {
            new ModelTest(seed).run(seed);
        }
        CHECK.end();
    }

    private void run(int seed) {
        int[] lengths = {10, 11, 12, 13, 13, 20, 40, 60, 90, 120};
        both("run " + seed, 0, lengths[seed % lengths.length], 0, 0);
        for (int i = 0; i < CALLS; i++) {
            step("run " + seed + ", step " + i);
            if (random.nextInt(4) == 0) {
                both("run " + seed + ", step " + i, 28, 0, 0, 0);
            }
        }
    }

    private void step(String where) {
        int length = model.length();
        switch (random.nextInt(34)) {
            case 0: if (random.nextInt(20) == 0) { both(where, 0, pick(10, 120), 0, 0); } return;
            case 1: range(where, 1, length - 1, random.nextInt(3) == 0 ? pick(20, 50) : pick(20, 160)); return;
            case 2: range(where, 2, length - 1, pick(-40, 40)); return;
            case 3: range(where, 3, length, random.nextInt(3)); return;
            case 4: case 5: both(where, 4, pick(0, length), random.nextInt(3), 0); return;
            case 6: both(where, 5, pick(50, 200), pick(0, 100), pick(1, 20)); return;
            case 7: both(where, 6, pick(2, 4), pick(1, 6), pick(6, 50)); return;
            case 8: both(where, 6, pick(2, 4), pick(1, 120), pick(1, 120)); return;
            case 9: both(where, 7, pick(0, 40), pick(0, 20), 0); return;
            case 10: both(where, 8, pick(0, length - 1), 0, 0); return;
            case 11: both(where, 9, pick(0, length - 1), 0, 0); return;
            case 12: both(where, 10, pick(0, length), 0, 0); return;
            case 13: both(where, 11, pick(0, length), 0, 0); return;
            case 14: both(where, 12, pick(0, length), 0, 0); return;
            case 15: both(where, 13, pick(0, length), 0, 0); return;
            case 16: range(where, 14, length, 0); return;
            case 17: case 18: case 19: case 29: both(where, 15, pick(0, length), 0, 0); return;
            case 20: both(where, 16, pick(0, length), 0, 0); return;
            case 21: if (random.nextInt(5) == 0) { both(where, 17, 0, 0, 0); } return;
            case 22: both(where, 19, pick(0, model.posts()), 0, 0); both(where, 18, 0, 0, 0); return;
            case 23: both(where, 20, 0, 0, 0); both(where, 21, pick(0, model.violationCount()), 0, 0); return;
            case 24: case 30: both(where, 22, 0, 0, 0); return;
            case 25: case 31: both(where, 23, 0, 0, 0); return;
            case 26: both(where, 24, pick(0, model.posts()), 0, 0); return;
            case 27: both(where, 25, 0, 0, 0); both(where, 26, 0, 0, 0); return;
            case 28: case 32: both(where, 27, 0, 0, 0); return;
            default: both(where, 5, pick(120, 200), pick(0, 20), pick(1, 20)); return;
        }
    }

    private void range(String where, int call, int last, int value) {
        int from = pick(0, last);
        int to = random.nextInt(12) == 0 ? pick(0, last) : Math.min(last, from + random.nextInt(12));
        both(where, call, from, Math.max(from, 0) > to && random.nextInt(4) != 0 ? from : to, value);
    }

    private int pick(int least, int most) {
        if (isWild && random.nextInt(25) == 0) {
            return WILD[random.nextInt(WILD.length)];
        }
        if (random.nextInt(25) == 0) {
            int[] edges = {least - 1, least, most, most + 1};
            return edges[random.nextInt(4)];
        }
        return most < least ? least : least + random.nextInt(most - least + 1);
    }

    private void both(String where, int call, int a, int b, int c) {
        String got = answer(() -> onClass(call, a, b, c));
        model.forget();
        String due = answer(() -> onModel(call, a, b, c));
        model.forget();
        CHECK.due(where, got.equals(due), true);
        if (!got.equals(due)) {
            String text = where + ": call " + call + " of (" + a + ", " + b + ", " + c + ")";
            CHECK.report(text + " answered " + got + ", due is " + due);
        }
    }

    private static String answer(Check.Call call) {
        try {
            return Long.toString(call.run());
        } catch (RuntimeException e) {
            return "throws." + e.getClass().getName();
        }
    }

    private long onClass(int call, int a, int b, int c) {
        switch (call) {
            case 0: return x.setLength(a);
            case 1: return x.setLimit(a, b, c);
            case 2: return x.setGradient(a, b, c);
            case 3: return x.setBarred(a, b, c == 0);
            case 4: return x.setRequired(a, b == 0) ? 1 : 0;
            case 5: return x.setTrain(a, b, c);
            case 6: return x.setRules(a, b, c);
            case 7: return x.setSight(a, b);
            case 8: return x.limit(a);
            case 9: return x.gradient(a);
            case 10: return x.isBarred(a) ? 1 : 0;
            case 11: return x.energy(a);
            case 12: return x.profileSpeed(a);
            case 13: return x.brakingDistance(a);
            case 14: return x.travelTime(a, b);
            case 15: return x.addPost(a);
            case 16: return x.removePost(a);
            case 17: return x.clearPosts();
            case 18: return x.posts();
            case 19: return x.post(a);
            case 20: return x.violationCount();
            case 21: return x.violation(a);
            case 22: return x.fewestPosts();
            case 23: return x.design();
            case 24: return x.blockTime(a);
            case 25: return x.headway();
            case 26: return x.capacity();
            case 27: return x.undo();
            default: return x.digest();
        }
    }

    private long onModel(int call, int a, int b, int c) {
        switch (call) {
            case 0: return model.setLength(a);
            case 1: return model.setLimit(a, b, c);
            case 2: return model.setGradient(a, b, c);
            case 3: return model.setBarred(a, b, c == 0);
            case 4: return model.setRequired(a, b == 0) ? 1 : 0;
            case 5: return model.setTrain(a, b, c);
            case 6: return model.setRules(a, b, c);
            case 7: return model.setSight(a, b);
            case 8: return model.limit(a);
            case 9: return model.gradient(a);
            case 10: return model.isBarred(a) ? 1 : 0;
            case 11: return model.energy(a);
            case 12: return model.profileSpeed(a);
            case 13: return model.brakingDistance(a);
            case 14: return model.travelTime(a, b);
            case 15: return model.addPost(a);
            case 16: return model.removePost(a);
            case 17: return model.clearPosts();
            case 18: return model.posts();
            case 19: return model.post(a);
            case 20: return model.violationCount();
            case 21: return model.violation(a);
            case 22: return model.fewestPosts();
            case 23: return model.design();
            case 24: return model.blockTime(a);
            case 25: return model.headway();
            case 26: return model.capacity();
            case 27: return model.undo();
            default: return model.digest();
        }
    }
}
