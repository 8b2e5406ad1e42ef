import java.util.Arrays;

/** The sentences of "Rules" and "Headway" that name a boundary, one after the other. */
public final class RuleEdgeTest extends Bench {
    public static void main(String[] args) {
        firstRules();
        barred();
        missing();
        missingEverywhere();
        gapsTooShort();
        gapsTooLong();
        noGapBeforeTheFirstPost();
        brakingOfTwoAspects();
        firstPostOfTwoAspects();
        brakingOfThreeAspects();
        brakingOfFourAspects();
        orderOfViolations();
        violationsOfFullLayouts();
        fewestPosts();
        lexicographicallyFirst();
        barredEnds();
        requiredPositions();
        brakingAcrossTheLine();
        brakingBetweenPosts();
        designFromAnyLayout();
        blockTimeIndexes();
        blockTimeBegins();
        blockTimeEnds();
        greatestBlockTime();
        capacityRoundedDown();
        noBlockTime();
        CHECK.end();
    }

    /** A line on which the braking distance is 1 cell everywhere, so that other rules show alone. */
    private static SignalSpacing quiet(int cells, int aspects, int minimum, int maximum) {
        SignalSpacing x = line(cells);
        x.setLimit(0, cells - 1, 20);
        x.setTrain(200, 0, 1);
        x.setRules(aspects, minimum, maximum);
        return x;
    }

    private static void put(SignalSpacing x, int... posts) {
        x.clearPosts();
        add(x, posts);
    }

    // ---- the kinds of violations

    /** "3 at first", "4 and 40 cells at first", "6 cells at first", "1 cell at first" */
    private static void firstRules() {
        CHECK.due("aspects at first", new SignalSpacing().setRules(2, 1, 1), 3);
        CHECK.due("sighting distance at first", new SignalSpacing().setSight(0, 0), 6);
        SignalSpacing x = withPosts(120, 0, 10, 14, 54, 94, 120);
        violations("the gap of 4 and those of 40 are within", x, 5010);
        x = withPosts(120, 0, 10, 13, 54, 94, 120);
        violations("a gap of 3 and one of 41 are not", x, 5010, 3013, 4054);
        // Six cells of sight before 10, one of overlap and four of train behind 54.
        CHECK.due("blockTime(1) at first", x.blockTime(1), (54 + 5 - 4) * 2250);
    }

    /** "a post is at a barred position; its position" */
    private static void barred() {
        SignalSpacing x = withPosts(120, 0, 40, 80, 120);
        violations("none is barred", x);
        x.setBarred(1, 39, true);
        x.setBarred(41, 79, true);
        x.setBarred(81, 119, true);
        violations("all but the posts are barred", x);
        x.setBarred(0, 0, true);
        violations("the first position", x, 1000);
        x.setBarred(120, 120, true);
        violations("the last position", x, 1000, 1120);
        x.setBarred(40, 40, true);
        violations("one between", x, 1000, 1040, 1120);
        x.clearPosts();
        violations("a position without a post", x, 2000, 2120);
    }

    /** "there is no post at a position that is required, or at position 0, or at position L; this position" */
    private static void missing() {
        SignalSpacing x = line(20);
        violations("both ends", x, 2000, 2020);
        x.addPost(0);
        violations("the last position", x, 2020);
        add(x, 20);
        violations("none", x);
        x.removePost(0);
        violations("the first position", x, 2000);
        x.setRequired(1, true);
        x.setRequired(19, true);
        violations("next to the ends", x, 2000, 2001, 2019);
        x.setRequired(0, true);
        x.setRequired(20, true);
        violations("a required end is one violation", x, 2000, 2001, 2019);
        x.setRequired(0, false);
        violations("an end is due also if it is not required", x, 2000, 2001, 2019);
        x.setRequired(1, false);
        violations("no longer required", x, 2000, 2019);
        x.setBarred(19, 19, true);
        violations("required and barred without a post", x, 2000, 2019);
        x.removePost(20);
        x.addPost(19);
        violations("required and barred with a post", x, 2000, 1019, 2020);
    }

    private static void missingEverywhere() {
        for (int cells : new int[] {10, 120}) {
            SignalSpacing x = quiet(cells, 3, 1, 120);
            for (int position = 0; position <= cells; position++) {
                x.setRequired(position, true);
            }
            int[] due = new int[cells + 1];
            Arrays.setAll(due, position -> 2000 + position);
            violations("all are required, none has a post", x, due);
            CHECK.refused("one more", x, INDEX, () -> x.violation(cells + 1));
            for (int position = 0; position <= cells; position++) {
                x.addPost(position);
                CHECK.due("all behind " + position, x.violationCount(), cells - position);
            }
        }
    }

    /** "p(i + 1) - p(i) is less than the minimum gap; the position p(i + 1)" */
    private static void gapsTooShort() {
        SignalSpacing x = quiet(120, 3, 5, 120);
        put(x, 0, 5, 11, 18, 120);
        violations("just the minimum", x);
        x.setRules(3, 6, 120);
        violations("one less than the minimum", x, 3005);
        x.setRules(3, 7, 120);
        violations("two of them", x, 3005, 3011);
        x.setRules(3, 103, 120);
        violations("all but none", x, 3005, 3011, 3018, 3120);
        x.setRules(3, 102, 120);
        violations("the last gap is just the minimum", x, 3005, 3011, 3018);
        put(x, 0, 119, 120);
        x.setRules(3, 119, 120);
        violations("the greatest gap but one", x, 3120);
        x.setRules(3, 120, 120);
        violations("the greatest minimum", x, 3119, 3120);
        put(x, 0, 120);
        violations("the whole line is just the greatest minimum", x);
        put(x, 0, 1, 2, 119, 120);
        x.setRules(3, 1, 120);
        violations("the least minimum", x);
        x.setRules(3, 2, 120);
        violations("the least minimum and one", x, 3001, 3002, 3120);
    }

    /** "p(i + 1) - p(i) is greater than the maximum gap; the position p(i + 1)" */
    private static void gapsTooLong() {
        SignalSpacing x = quiet(20, 3, 1, 9);
        put(x, 0, 5, 11, 20);
        violations("just the maximum", x);
        x.setRules(3, 1, 8);
        violations("one more than the maximum", x, 4020);
        x.setRules(3, 1, 6);
        violations("the gap before is just the maximum", x, 4020);
        x.setRules(3, 1, 5);
        violations("two of them", x, 4011, 4020);
        x.setRules(3, 1, 4);
        violations("all of them", x, 4005, 4011, 4020);
        x.setRules(3, 1, 1);
        violations("the least maximum", x, 4005, 4011, 4020);
        put(x, 0, 1, 2, 20);
        violations("gaps of one", x, 4020);
        SignalSpacing y = quiet(120, 3, 1, 120);
        put(y, 0, 120);
        violations("the greatest maximum", y);
        y.setRules(3, 1, 119);
        violations("the greatest maximum but one", y, 4120);
    }

    private static void noGapBeforeTheFirstPost() {
        for (int aspects = 2; aspects <= 4; aspects++) {
            SignalSpacing x = quiet(60, aspects, 1, 1);
            put(x, 30);
            violations("one post far from both ends", x, 2000, 2060);
            x.setRules(aspects, 120, 120);
            violations("one post near to both ends", x, 2000, 2060);
            put(x, 0);
            violations("one post at the begin", x, 2060);
            put(x, 60);
            violations("one post at the end", x, 2000);
        }
    }

    // The first cell is slow: the braking distance is 1 at position 0 and 7 from position 1 on.
    private static SignalSpacing slowBegin(int aspects) {
        SignalSpacing x = line(20);
        x.setLimit(0, 0, 20);
        x.setTrain(80, 0, 4);
        x.setRules(aspects, 1, 40);
        return x;
    }

    /**
     * K = 2: "with s the greater one of 0 and p(i) - (sighting distance), the braking distance at s is greater
     * than p(i) - s"
     */
    private static void brakingOfTwoAspects() {
        SignalSpacing x = slowBegin(2);
        CHECK.due("brakingDistance(0)", x.brakingDistance(0), 1);
        CHECK.due("brakingDistance(1)", x.brakingDistance(1), 7);
        put(x, 0, 7, 20);
        int[][] ofSeven = {{6, 5007, 5020}, {7}, {8}, {20}, {40}, {5, 5007, 5020}, {0, 5007, 5020}};
        for (int[] s : ofSeven) {
            x.setSight(s[0], 1);
            violations("a post at 7, " + s[0] + " cells of sight", x, Arrays.copyOfRange(s, 1, s.length));
        }
        put(x, 0, 1, 20);
        int[][] ofOne = {{0, 5001, 5020}, {1, 5020}, {2, 5020}, {6, 5020}, {7}, {19}, {20}, {40}};
        for (int[] s : ofOne) {
            x.setSight(s[0], 1);
            violations("a post at 1, " + s[0] + " cells of sight", x, Arrays.copyOfRange(s, 1, s.length));
        }
        x.setLimit(0, 0, 80);
        violations("a post at 1 and 7 cells to brake from 0", x, 5001);
        put(x, 0, 6, 7, 20);
        violations("from 0, a cell too near, and just as far", x, 5006);
    }

    /** "for a post p(i) with i of at least 1" */
    private static void firstPostOfTwoAspects() {
        SignalSpacing x = slowBegin(2);
        x.setSight(0, 1);
        put(x, 0, 20);
        violations("a first post at 0", x, 5020);
        put(x, 5, 20);
        violations("a first post at 5", x, 2000, 5020);
        put(x, 20);
        violations("a first post at the end", x, 2000);
        put(x, 5, 6);
        violations("the second post", x, 2000, 5006, 2020);
        x.removePost(5);
        violations("the second post has become the first", x, 2000, 2020);
    }

    /**
     * K = 3: "for a post p(i) with i + K - 2 at most m: p(i + K - 2) - p(i) is less than the braking distance
     * at p(i)"
     */
    private static void brakingOfThreeAspects() {
        SignalSpacing x = line(20);
        x.setRules(3, 1, 40);
        put(x, 0, 8, 20);
        violations("just the braking distance of 8", x);
        put(x, 0, 7, 20);
        violations("one less", x, 5000);
        put(x, 0, 12, 20);
        violations("the last gap is just as long", x);
        put(x, 0, 13, 20);
        violations("the last gap is one less", x, 5013);
        put(x, 19);
        violations("m = 0: none is looked at", x, 2000, 2020);
        put(x, 18, 19);
        violations("m = 1: only the first one is", x, 2000, 5018, 2020);
        SignalSpacing y = slowBegin(3);
        put(y, 0, 1, 20);
        violations("the braking distance at 0 counts, not the one at 1", y);
        put(y, 0, 1, 8, 20);
        violations("just the one at 1", y);
        put(y, 0, 1, 7, 20);
        violations("one less than the one at 1", y, 5001);
    }

    /** K = 4: the same sentence */
    private static void brakingOfFourAspects() {
        SignalSpacing x = line(20);
        x.setRules(4, 1, 40);
        put(x, 0, 1, 8, 9, 16, 20);
        violations("just the braking distance of 8, over two gaps", x);
        put(x, 0, 1, 7, 9, 16, 20);
        violations("one less", x, 5000);
        put(x, 0, 1, 8, 10, 15, 20);
        violations("one less in the midst", x, 5008);
        put(x, 0, 4, 12, 13, 20);
        violations("the last two gaps are just as long", x);
        put(x, 0, 5, 13, 14, 20);
        violations("the last two gaps are one less", x, 5013);
        put(x, 19);
        violations("m = 0: none is looked at", x, 2000, 2020);
        put(x, 18, 19);
        violations("m = 1: none is looked at", x, 2000, 2020);
        put(x, 17, 18, 19);
        violations("m = 2: only the first one is", x, 2000, 5017, 2020);
        SignalSpacing y = slowBegin(4);
        put(y, 0, 1, 2, 8, 20);
        violations("the braking distances at 0 and 1 are 1 and 7", y);
        put(y, 0, 1, 2, 7, 20);
        violations("one less than the one at 1", y, 5001);
    }

    /** "Violations are ordered by their positions, and those at the same position by their kinds." */
    private static void orderOfViolations() {
        SignalSpacing x = withPosts(20, 0, 2, 9, 16, 20);
        x.setRules(3, 4, 6);
        x.setBarred(2, 2, true);
        x.setBarred(9, 9, true);
        x.setRequired(5, true);
        x.setRequired(17, true);
        violations("three at one position", x, 5000, 1002, 3002, 5002, 2005, 1009, 4009, 5009, 4016, 5016, 2017);
        x.removePost(20);
        violations("without the last post", x, 5000, 1002, 3002, 5002, 2005, 1009, 4009, 5009, 4016, 2017, 2020);
        SignalSpacing y = withPosts(120, 119, 120);
        y.setRules(2, 4, 40);
        y.setBarred(120, 120, true);
        y.setRequired(118, true);
        y.setSight(0, 0);
        violations("three digits of position", y, 2000, 2118, 1120, 3120, 5120);
    }

    private static void violationsOfFullLayouts() {
        for (int cells : new int[] {10, 120}) {
            for (int aspects = 2; aspects <= 4; aspects++) {
                SignalSpacing x = withAllPosts(cells);
                x.setBarred(0, cells, true);
                x.setRules(aspects, 10, 10);
                x.setSight(0, 0);
                // All are barred, all but the first too near, and all but one, one or two brake too late.
                int count = 3 * cells + (aspects == 4 ? 0 : 1);
                CHECK.due(aspects + " aspects: violationCount()", x.violationCount(), count);
                CHECK.due(aspects + " aspects: violation(0)", x.violation(0), 1000);
                CHECK.due(aspects + " aspects: violation(1)", x.violation(1), aspects == 2 ? 1001 : 5000);
                int last = (aspects == 2 ? 5000 : 3000) + cells;
                CHECK.due(aspects + " aspects: the last one", x.violation(count - 1), last);
                CHECK.refused(aspects + " aspects: one more", x, INDEX, () -> x.violation(count));
                x.setRules(aspects, 1, 1);
                x.setBarred(0, cells, false);
                x.setLimit(0, cells - 1, 20);
                x.setTrain(200, 0, 1);
                x.setSight(1, 0);
                violations(aspects + " aspects: a full layout that is valid", x);
            }
        }
    }

    // ---- the best layout

    /** "The best layout is the valid one with the fewest posts": from two to L + 1 of them, or none. */
    private static void fewestPosts() {
        for (int cells : new int[] {10, 60, 120}) {
            int half = cells / 2;
            for (int aspects = 2; aspects <= 4; aspects++) {
                SignalSpacing x = quiet(cells, aspects, 1, cells);
                designs("a gap as long as the line", x, 0, cells);
                x.setRules(aspects, 1, 120);
                designs("the greatest maximum", x, 0, cells);
                x.setRules(aspects, cells, cells);
                designs("no other gap", x, 0, cells);
                x.setRules(aspects, 1, cells - 1);
                designs("a gap of one cell less", x, 0, 1, cells);
                x.setRules(aspects, half, half);
                designs("two gaps and no other", x, 0, half, cells);
                x.setRules(aspects, 1, half);
                designs("two gaps", x, 0, half, cells);
                x.setRules(aspects, 1, half - 1);
                designs("three gaps", x, 0, 2, half + 1, cells);
                x.setRules(aspects, half + 1, cells - 1);
                cannotDesign("one gap is too long and two are", x);
                x.setRules(aspects, 1, 1);
                int[] all = new int[cells + 1];
                Arrays.setAll(all, position -> position);
                designs("a post at each position", x, all);
                x.setRules(aspects, cells, 120);
                designs("the greatest minimum that goes", x, 0, cells);
                if (cells < 120) {
                    x.setRules(aspects, cells + 1, cells + 1);
                    cannotDesign("the least minimum that does not go", x);
                }
            }
        }
    }

    /** "of several the lexicographically first one (the one with the smaller position at the first place [...])" */
    private static void lexicographicallyFirst() {
        for (int aspects = 2; aspects <= 4; aspects++) {
            SignalSpacing x = quiet(20, aspects, 1, 7);
            designs("the first place decides", x, 0, 6, 13, 20);
            x.setBarred(6, 6, true);
            designs("7 is the next one; the second place decides", x, 0, 7, 13, 20);
            x.setBarred(13, 13, true);
            designs("14 is the next one", x, 0, 7, 14, 20);
            x.setBarred(7, 7, true);
            designs("five posts: the first place is 1 at once", x, 0, 1, 8, 14, 20);
            x.setBarred(8, 8, true);
            designs("the second place brings the first one to 2", x, 0, 2, 9, 14, 20);
            x.setBarred(14, 14, true);
            designs("the third place", x, 0, 2, 9, 15, 20);
            x.setBarred(1, 19, true);
            cannotDesign("all between are barred", x);
            x.setRules(aspects, 1, 20);
            designs("none between is wanted", x, 0, 20);
        }
    }

    private static void barredEnds() {
        for (int cells : new int[] {10, 120}) {
            for (int aspects = 2; aspects <= 4; aspects++) {
                SignalSpacing x = quiet(cells, aspects, 1, 120);
                x.setBarred(0, 0, true);
                cannotDesign("position 0 is barred", x);
                x.setBarred(cells, cells, true);
                cannotDesign("both ends are barred", x);
                x.setBarred(0, 0, false);
                cannotDesign("position L is barred", x);
                x.setBarred(cells, cells, false);
                x.setBarred(1, cells - 1, true);
                designs("all but the ends are barred", x, 0, cells);
                x.setRules(aspects, 1, cells - 1);
                cannotDesign("a post between them is wanted", x);
                x.setBarred(cells - 1, cells - 1, false);
                designs("the last one between them is free", x, 0, cells - 1, cells);
                x.setBarred(1, 1, false);
                designs("the first one between them is free", x, 0, 1, cells);
            }
        }
    }

    private static void requiredPositions() {
        for (int aspects = 2; aspects <= 4; aspects++) {
            SignalSpacing x = quiet(20, aspects, 1, 20);
            x.setRequired(0, true);
            x.setRequired(20, true);
            designs("the ends are there anyway", x, 0, 20);
            x.setRequired(1, true);
            x.setRequired(19, true);
            designs("next to the ends", x, 0, 1, 19, 20);
            x.setBarred(1, 1, true);
            cannotDesign("required and barred", x);
            x.setBarred(1, 1, false);
            x.setRules(aspects, 1, 17);
            designs("one more is wanted between", x, 0, 1, 2, 19, 20);
            x.setRules(aspects, 2, 20);
            cannotDesign("the gaps at the ends are too short", x);
        }
        allRequired();
    }

    // 36 km/h at 50 cm/s^2 are 2 cells to the last, 37 km/h are 3.
    private static void allRequired() {
        SignalSpacing x = line(12);
        x.setLimit(0, 11, 36);
        x.setTrain(50, 0, 1);
        for (int position = 2; position <= 12; position++) {
            x.setRequired(position, true);
        }
        x.setRules(3, 1, 12);
        cannotDesign("three aspects: the gap of one is too short for 2 cells", x);
        x.setRules(4, 1, 12);
        designs("four aspects: two gaps of one are enough", x, 0, 2, 3, 4, 5, 6, 7, 8, 9, 10, 11, 12);
        x.setRequired(1, true);
        designs("four aspects: a post at each position", x, 0, 1, 2, 3, 4, 5, 6, 7, 8, 9, 10, 11, 12);
        x.setRules(2, 1, 12);
        x.setSight(2, 0);
        cannotDesign("two aspects: position 1 is too near to 0", x);
        x.setRequired(1, false);
        designs("two aspects: two cells of sight are enough", x, 0, 2, 3, 4, 5, 6, 7, 8, 9, 10, 11, 12);
        x.setLimit(0, 11, 37);
        cannotDesign("two aspects: they are not for 3 cells", x);
        x.setRules(4, 1, 12);
        cannotDesign("four aspects: two gaps of one are not", x);
    }

    // 72 km/h at 50 cm/s^2 are 8 cells, and 50 tenths of a second 2 more to the last; 51 are 3.
    private static void brakingAcrossTheLine() {
        int[][] trains = {{50, 10}, {51, 11}};
        for (int[] t : trains) {
            SignalSpacing x = line(10);
            x.setLimit(0, 9, 72);
            x.setTrain(50, t[0], 4);
            CHECK.due("brakingDistance(0)", x.brakingDistance(0), t[1]);
            boolean isEnough = t[1] == 10;
            x.setRules(4, 1, 10);
            designs("four aspects: two posts have no such rule", x, 0, 10);
            x.setRules(4, 1, 9);
            designsOrNot("four aspects: the third post is 10 cells behind", x, isEnough, 0, 1, 10);
            x.setRules(3, 1, 10);
            designsOrNot("three aspects: the second post is 10 cells behind", x, isEnough, 0, 10);
            x.setRules(2, 1, 10);
            x.setSight(10, 0);
            designsOrNot("two aspects: 10 cells of sight", x, isEnough, 0, 10);
            x.setSight(40, 0);
            designsOrNot("two aspects: the line begins before the sight ends", x, isEnough, 0, 10);
            x.setSight(9, 0);
            cannotDesign("two aspects: 9 cells of sight", x);
        }
    }

    /** The first place that the braking distance leaves to a post, and the last distance that leaves one. */
    private static void brakingBetweenPosts() {
        SignalSpacing x = line(16);
        x.setRules(3, 1, 8);
        designs("three aspects: gaps of 8 for 8 cells", x, 0, 8, 16);
        x.setRules(3, 1, 7);
        cannotDesign("three aspects: gaps of 7 for 8 cells", x);
        x.setLength(20);
        x.setRules(3, 1, 19);
        designs("three aspects: the first place is 8", x, 0, 8, 20);
        x.setBarred(8, 11, true);
        designs("three aspects: the last place is 12", x, 0, 12, 20);
        x.setBarred(12, 12, true);
        cannotDesign("three aspects: 13 is too near to the end", x);
        SignalSpacing y = line(20);
        y.setRules(4, 1, 6);
        // The reaction time, and the braking distance: 1, 2, 3 and 4 cells of reaction and 7 of braking.
        y.setTrain(80, 22, 4);
        designs("four aspects: two gaps make 8 cells", y, 0, 2, 8, 14, 20);
        y.setTrain(80, 23, 4);
        designs("four aspects: two gaps make 9 cells", y, 0, 3, 9, 14, 20);
        y.setTrain(80, 67, 4);
        designs("four aspects: two gaps make 10 cells", y, 0, 4, 10, 14, 20);
        y.setTrain(80, 68, 4);
        cannotDesign("four aspects: the half of the line is too short for 11 cells", y);
        SignalSpacing z = line(20);
        z.setRules(2, 1, 6);
        z.setSight(8, 0);
        cannotDesign("two aspects: no post stands before 8, and none between is too far", z);
        z.setRules(2, 1, 8);
        designs("two aspects: the first place is 8", z, 0, 8, 12, 20);
        z.setSight(7, 0);
        cannotDesign("two aspects: a sight of 7 for 8 cells", z);
    }

    private static void designsOrNot(String what, SignalSpacing x, boolean can, int... due) {
        if (can) {
            designs(what, x, due);
        } else {
            cannotDesign(what, x);
        }
    }

    /** "Replaces the present layout by the best layout": the empty one, the full one, itself. */
    private static void designFromAnyLayout() {
        SignalSpacing x = line(120);
        CHECK.due("design() of an empty layout", x.design(), 4);
        layout("after the empty layout", x, 0, 40, 80, 120);
        CHECK.due("design() of the same layout", x.design(), 4);
        layout("after the same layout", x, 0, 40, 80, 120);
        CHECK.due("undo() to the same layout", x.undo(), 2);
        layout("the same layout", x, 0, 40, 80, 120);
        SignalSpacing y = withAllPosts(120);
        CHECK.due("design() of a full layout", y.design(), 4);
        layout("after the full layout", y, 0, 40, 80, 120);
        CHECK.refused("no fifth post", y, INDEX, () -> y.post(4));
        CHECK.due("undo() to the full layout", y.undo(), 3);
        CHECK.due("posts() of the full layout", y.posts(), 121);
        CHECK.due("post(120) of the full layout", y.post(120), 120);
    }

    // ---- headway

    /** "for i with i + K - 1 at most m" */
    private static void blockTimeIndexes() {
        for (int aspects = 2; aspects <= 4; aspects++) {
            SignalSpacing x = line(60);
            x.setRules(aspects, 1, 60);
            for (int posts = 1; posts <= 6; posts++) {
                x.addPost(10 * posts - 10);
                for (int index = 0; index < posts; index++) {
                    String what = aspects + " aspects and " + posts + " posts: blockTime(" + index + ")";
                    CHECK.due(what, x.blockTime(index) != NONE, index + aspects - 1 <= posts - 1);
                }
                CHECK.due("headway()", x.headway() != NONE, posts >= aspects);
            }
            SignalSpacing y = withAllPosts(120);
            y.setRules(aspects, 1, 60);
            CHECK.due("the last one that has a block time", y.blockTime(121 - aspects), (6 + aspects - 1) * 2250);
            CHECK.due("the first one that has none", y.blockTime(122 - aspects), NONE);
            CHECK.due("the last one of all", y.blockTime(120), NONE);
        }
    }

    /** "from the greater one of 0 and p(i) - (sighting distance)" */
    private static void blockTimeBegins() {
        SignalSpacing x = withPosts(20, 5, 10);
        x.setRules(2, 1, 40);
        // The sighting distance, and the cells from the begin to 15.
        int[][] cases = {{0, 10}, {1, 11}, {4, 14}, {5, 15}, {6, 15}, {40, 15}};
        for (int[] c : cases) {
            x.setSight(c[0], 1);
            CHECK.due(c[0] + " cells of sight before 5", x.blockTime(0), c[1] * 2250);
        }
        put(x, 0, 10);
        for (int sighting : new int[] {0, 1, 40}) {
            x.setSight(sighting, 1);
            CHECK.due(sighting + " cells of sight before 0", x.blockTime(0), 15 * 2250);
        }
    }

    /** "to the smaller one of L and p(i + K - 1) + overlap + (length of the train)" */
    private static void blockTimeEnds() {
        SignalSpacing x = withPosts(20, 5, 10);
        x.setRules(2, 1, 40);
        // The overlap, the length of the train, and the cells from 0 to the end.
        int[][] cases = {{0, 1, 11}, {1, 1, 12}, {0, 9, 19}, {0, 10, 20}, {0, 11, 20}, {8, 1, 19}, {9, 1, 20},
            {10, 1, 20}, {5, 5, 20}, {5, 4, 19}, {20, 20, 20}};
        for (int[] c : cases) {
            x.setSight(5, c[0]);
            x.setTrain(80, 20, c[1]);
            CHECK.due("an overlap of " + c[0] + " and a train of " + c[1], x.blockTime(0), c[2] * 2250);
        }
        put(x, 5, 20);
        x.setSight(5, 0);
        x.setTrain(80, 20, 1);
        CHECK.due("a post at the end of the line", x.blockTime(0), 20 * 2250);
        SignalSpacing y = withAllPosts(120);
        y.setSight(40, 20);
        y.setTrain(80, 20, 20);
        CHECK.due("both ends of the line", y.blockTime(38), 80 * 2250);
        CHECK.due("40 cells before 40", y.blockTime(40), (40 + 2 + 40) * 2250);
        CHECK.due("40 cells behind 80", y.blockTime(78), (40 + 2 + 40) * 2250);
        CHECK.due("40 cells behind 81 are too many", y.blockTime(79), (40 + 2 + 39) * 2250);
    }

    /** "The headway is the greatest block time": the first, the last, the only one, one of several. */
    private static void greatestBlockTime() {
        SignalSpacing x = withPosts(60, 0, 30, 40, 50, 60);
        x.setRules(2, 1, 60);
        x.setSight(0, 0);
        x.setTrain(80, 20, 1);
        CHECK.due("the first one", x.headway(), 31 * 2250);
        put(x, 0, 10, 20, 30, 60);
        CHECK.due("the last one", x.headway(), 30 * 2250);
        put(x, 0, 10, 20, 30, 40);
        CHECK.due("all are the same", x.headway(), 11 * 2250);
        put(x, 30, 31);
        CHECK.due("the only one", x.headway(), 2 * 2250);
        put(x, 59, 60);
        CHECK.due("the only one, at the end", x.headway(), 2250);
    }

    /** "the capacity is 3600000 / headway, rounded down" */
    private static void capacityRoundedDown() {
        SignalSpacing x = withPosts(10, 9, 10);
        x.setRules(2, 1, 40);
        x.setSight(0, 0);
        x.setTrain(80, 20, 1);
        // The speed, the headway, and 3600000 / headway: 3200, 3177.4, 1800, 1819.1, 1600, 1619.4, 400.
        int[][] cases = {{160, 1125, 3200}, {159, 1133, 3177}, {90, 2000, 1800}, {91, 1979, 1819}, {80, 2250, 1600},
            {81, 2223, 1619}, {20, 9000, 400}};
        for (int[] c : cases) {
            x.setLimit(0, 9, c[0]);
            CHECK.due("headway() at " + c[0], x.headway(), c[1]);
            CHECK.due("capacity() at " + c[0], x.capacity(), c[2]);
        }
        SignalSpacing y = withPosts(120, 0, 120);
        y.setRules(2, 1, 120);
        y.setLimit(0, 119, 20);
        CHECK.due("the longest headway", y.headway(), 1080000);
        CHECK.due("the least capacity: 3.3", y.capacity(), 3);
    }

    /** "NONE if no post has a block time"; "Throws IllegalStateException if no post has a block time" */
    private static void noBlockTime() {
        for (int aspects = 2; aspects <= 4; aspects++) {
            SignalSpacing x = line(60);
            x.setRules(aspects, 1, 60);
            for (int posts = 0; posts < aspects; posts++) {
                CHECK.due("headway() of " + posts + " posts", x.headway(), NONE);
                CHECK.refused("capacity() of " + posts + " posts", x, STATE, () -> x.capacity());
                x.addPost(20 * posts);
            }
            CHECK.due("one post has a block time", x.headway(), x.blockTime(0));
            CHECK.due("capacity() of one block time", x.capacity(), 3600000 / x.blockTime(0));
            x.undo();
            CHECK.refused("capacity() after undo()", x, STATE, () -> x.capacity());
        }
    }
}
