/** The four examples of the document, as they stand there. */
public final class ExampleTest {
    private static final Check CHECK = new Check();

    public static void main(String[] args) {
        bestLayoutOfANewLine();
        lowerLimitAndDownhillGradient();
        violationsByALongGapAndABarredPosition();
        exceptions();
        CHECK.end();
    }

    private static void bestLayoutOfANewLine() {
        SignalSpacing x = new SignalSpacing();
        CHECK.due("1: brakingDistance(0)", x.brakingDistance(0), 8);
        CHECK.due("1: profileSpeed(0)", x.profileSpeed(0), 80);
        CHECK.due("1: travelTime(0, 60)", x.travelTime(0, 60), 135000);
        CHECK.due("1: fewestPosts()", x.fewestPosts(), 3);
        CHECK.due("1: design()", x.design(), 3);
        CHECK.due("1: post(1)", x.post(1), 20);
        CHECK.due("1: violationCount()", x.violationCount(), 0);
        CHECK.due("1: headway()", x.headway(), 135000);
        CHECK.due("1: capacity()", x.capacity(), 26);
    }

    private static void lowerLimitAndDownhillGradient() {
        SignalSpacing x = new SignalSpacing();
        CHECK.due("2: setLimit(30, 39, 40)", x.setLimit(30, 39, 40), 10);
        CHECK.due("2: profileSpeed(25)", x.profileSpeed(25), 80);
        CHECK.due("2: energy(30)", x.energy(30), 200000);
        CHECK.due("2: energy(29)", x.energy(29), 329600);
        CHECK.due("2: brakingDistance(25)", x.brakingDistance(25), 8);
        CHECK.due("2: setGradient(20, 40, -20)", x.setGradient(20, 40, -20), 21);
        CHECK.due("2: brakingDistance(25) downhill", x.brakingDistance(25), 9);
    }

    private static void violationsByALongGapAndABarredPosition() {
        SignalSpacing x = new SignalSpacing();
        CHECK.due("3: setLength(20)", x.setLength(20), 60);
        CHECK.due("3: addPost(0)", x.addPost(0), 0);
        CHECK.due("3: addPost(20)", x.addPost(20), 1);
        CHECK.due("3: setRules(3, 4, 12)", x.setRules(3, 4, 12), 3);
        CHECK.due("3: violationCount()", x.violationCount(), 1);
        CHECK.due("3: violation(0)", x.violation(0), 4020);
        CHECK.due("3: setBarred(9, 11, true)", x.setBarred(9, 11, true), 3);
        CHECK.due("3: addPost(10)", x.addPost(10), 1);
        CHECK.due("3: violation(0) of the barred post", x.violation(0), 1010);
        CHECK.due("3: fewestPosts()", x.fewestPosts(), 3);
        CHECK.due("3: design()", x.design(), 3);
    }

    private static void exceptions() {
        SignalSpacing x = new SignalSpacing();
        CHECK.refused("4: setLength(9)", x, IllegalArgumentException.class, () -> x.setLength(9));
        CHECK.due("4: addPost(5)", x.addPost(5), 0);
        CHECK.refused("4: addPost(5) again", x, IllegalStateException.class, () -> x.addPost(5));
        CHECK.refused("4: post(1)", x, IndexOutOfBoundsException.class, () -> x.post(1));
        CHECK.refused("4: capacity()", x, IllegalStateException.class, () -> x.capacity());
        CHECK.due("4: setRules(3, 61, 61)", x.setRules(3, 61, 61), 3);
        CHECK.refused("4: design()", x, IllegalStateException.class, () -> x.design());
    }
}
