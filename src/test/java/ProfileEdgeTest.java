/** The sentences of "The line", "The train" and "Profile and braking" that name a boundary, one after the other. */
public final class ProfileEdgeTest extends Bench {
    public static void main(String[] args) {
        firstValuesOfALine();
        energyAtTheEndOfTheLine();
        smallerOneOfLimitAndBraking();
        leastAndGreatestEnergyLost();
        greatestIntegerWithinTheEnergy();
        reactionRoundedUp();
        leastNumberOfCells();
        leastNumberOverDifferentCells();
        reactionMovesTheBegin();
        cellsBehindTheLine();
        longestBrakingDistance();
        runningTimeRoundedUp();
        sumOfRunningTimes();
        CHECK.end();
    }

    private static SignalSpacing flat(int cells, int speed, int rate, int reaction) {
        SignalSpacing x = line(cells);
        x.setLimit(0, cells - 1, speed);
        x.setTrain(rate, reaction, 4);
        return x;
    }

    /** "60 at first", "80 at first", "0 at first", "not at first": to the last cell and position. */
    private static void firstValuesOfALine() {
        for (int cells : new int[] {60, 10, 120}) {
            SignalSpacing x = cells == 60 ? new SignalSpacing() : line(cells);
            CHECK.due("cells of a line of " + cells, cells(x), cells);
            for (int cell = 0; cell < cells; cell++) {
                CHECK.due("limit(" + cell + ") at first", x.limit(cell), 80);
                CHECK.due("gradient(" + cell + ") at first", x.gradient(cell), 0);
            }
            for (int position = 0; position <= cells; position++) {
                CHECK.due("isBarred(" + position + ") at first", x.isBarred(position), false);
                CHECK.due("setRequired(" + position + ") at first", x.setRequired(position, false), false);
            }
            CHECK.due("posts() at first", x.posts(), 0);
        }
    }

    /** "E(L) = 125 * (limit of cell L - 1)^2" */
    private static void energyAtTheEndOfTheLine() {
        for (int cells : new int[] {10, 60, 120}) {
            for (int speed : new int[] {20, 21, 159, 160}) {
                SignalSpacing x = line(cells);
                x.setLimit(cells - 1, cells - 1, speed);
                CHECK.due("energy(" + cells + ") with " + speed, x.energy(cells), 125L * speed * speed);
                CHECK.due("profileSpeed(" + cells + ") with " + speed, x.profileSpeed(cells), speed);
                x.setGradient(cells - 1, cells - 1, -40);
                CHECK.due("energy(" + cells + ") has no gradient", x.energy(cells), 125L * speed * speed);
            }
        }
    }

    /** "the smaller one of 125 * (limit of cell x)^2 and E(x + 1) + A(x)": equal, and one to each side. */
    private static void smallerOneOfLimitAndBraking() {
        SignalSpacing x = line(10);
        // 50 cm/s^2 and 25 per mille downhill take 40500 = 125 * (82 * 82 - 80 * 80).
        x.setTrain(50, 20, 4);
        x.setGradient(8, 8, -25);
        x.setLimit(8, 8, 82);
        CHECK.due("both are equal: energy(8)", x.energy(8), 840500);
        CHECK.due("both are equal: profileSpeed(8)", x.profileSpeed(8), 82);
        x.setLimit(8, 8, 81);
        CHECK.due("the limit is smaller: energy(8)", x.energy(8), 820125);
        CHECK.due("the limit is smaller: profileSpeed(8)", x.profileSpeed(8), 81);
        x.setLimit(8, 8, 83);
        CHECK.due("braking is smaller: energy(8)", x.energy(8), 840500);
        CHECK.due("braking is smaller: profileSpeed(8)", x.profileSpeed(8), 82);
        x.setLimit(8, 8, 82);
        x.setGradient(8, 8, -26);
        CHECK.due("a little steeper: energy(8)", x.energy(8), 838880);
        x.setGradient(8, 8, -24);
        CHECK.due("a little less steep: energy(8)", x.energy(8), 840500);
        CHECK.due("a lower limit behind holds back a cell before: energy(7)", x.energy(7), 800000);
        x.setLimit(7, 7, 160);
        CHECK.due("as far as braking goes: energy(7)", x.energy(7), 840500 + 81000);
    }

    /** "A(c) = 162 * (10 * B + 10 * gradient of c)" at the ends of both ranges. */
    private static void leastAndGreatestEnergyLost() {
        int[][] ends = {{50, -40, 16200}, {50, 40, 145800}, {200, -40, 259200}, {200, 40, 388800}, {50, 0, 81000},
            {200, 0, 324000}, {50, -1, 79380}, {50, 1, 82620}};
        for (int[] e : ends) {
            SignalSpacing x = line(10);
            x.setLimit(9, 9, 20);
            x.setLimit(0, 8, 160);
            x.setGradient(8, 8, e[1]);
            x.setTrain(e[0], 0, 1);
            CHECK.due("a rate of " + e[0] + " at " + e[1] + " per mille", x.energy(8) - x.energy(9), e[2]);
        }
    }

    /** "the greatest integer v for which 125 * v * v is at most E(x)" */
    private static void greatestIntegerWithinTheEnergy() {
        SignalSpacing x = line(10);
        x.setTrain(50, 20, 4);
        x.setLimit(8, 8, 160);
        x.setGradient(8, 8, -25);
        CHECK.due("125 * 82 * 82 exactly", x.profileSpeed(8), 82);
        x.setGradient(8, 8, -26);
        CHECK.due("a little less", x.profileSpeed(8), 81);
        x.setGradient(8, 8, -24);
        CHECK.due("a little more", x.profileSpeed(8), 82);
        x.setLimit(0, 9, 160);
        CHECK.due("the greatest of all", x.profileSpeed(0), 160);
        x.setLimit(0, 9, 20);
        CHECK.due("the least of all", x.profileSpeed(0), 20);
        for (int position = 0; position <= 10; position++) {
            CHECK.due("20 at each position", x.profileSpeed(position), 20);
        }
    }

    /** "r is (profile speed at x) * T / 1800, rounded up" */
    private static void reactionRoundedUp() {
        // The speed, the reaction time, and r: their product is 0, or at a multiple of 1800 or next to it.
        int[][] cases = {{160, 0, 0}, {20, 1, 1}, {58, 31, 1}, {90, 20, 1}, {60, 30, 1}, {20, 90, 1}, {53, 34, 2},
            {34, 53, 2}, {36, 100, 2}, {40, 90, 2}, {37, 98, 3}, {74, 73, 4}, {147, 49, 5},
            {160, 100, 9}, {144, 100, 8}, {145, 100, 9}};
        for (int[] c : cases) {
            SignalSpacing x = flat(120, c[0], 200, c[1]);
            int braking = 0;
            while (braking * 324000 < 125 * c[0] * c[0]) {
                braking++;
            }
            for (int position : new int[] {0, 60, 119, 120}) {
                CHECK.due(c[0] + " km/h for " + c[1] + " tenths from " + position, x.brakingDistance(position),
                    c[2] + braking);
            }
        }
    }

    /** "n is the least number for which the sum of A over the n cells [...] is at least E(x)" */
    private static void leastNumberOfCells() {
        // 125 * 72 * 72 = 648000: five cells of 129600, and 125 * 73 * 73 is more.
        CHECK.due("five cells take it to the last", flat(20, 72, 80, 0).brakingDistance(0), 5);
        CHECK.due("five cells do not take it", flat(20, 73, 80, 0).brakingDistance(0), 6);
        CHECK.due("five cells take more", flat(20, 71, 80, 0).brakingDistance(0), 5);
        CHECK.due("four cells take it to the last", flat(20, 72, 100, 0).brakingDistance(0), 4);
        CHECK.due("a rate of one less", flat(20, 72, 99, 0).brakingDistance(0), 5);
        CHECK.due("a rate of one more", flat(20, 72, 101, 0).brakingDistance(0), 4);
        CHECK.due("one cell is the least", flat(20, 20, 200, 0).brakingDistance(0), 1);
        CHECK.due("36 km/h and two cells", flat(20, 36, 50, 0).brakingDistance(0), 2);
        // 125 * 36 * 36 = 162000 = 1620 * 100.
        CHECK.due("36 km/h and one cell", flat(20, 36, 100, 0).brakingDistance(0), 1);
        CHECK.due("36 km/h and not quite one cell", flat(20, 36, 99, 0).brakingDistance(0), 2);
    }

    /** The same sum where each cell takes another energy: 648000 = 1620 * (40 + 120 + 80 + 80 + 80). */
    private static void leastNumberOverDifferentCells() {
        SignalSpacing x = flat(20, 72, 80, 0);
        x.setGradient(3, 3, -40);
        x.setGradient(4, 4, 40);
        CHECK.due("to the last", x.brakingDistance(3), 5);
        x.setGradient(7, 7, -1);
        CHECK.due("the fifth cell takes too little", x.brakingDistance(3), 6);
        x.setGradient(7, 7, 1);
        CHECK.due("the fifth cell takes more", x.brakingDistance(3), 5);
        x.setGradient(7, 7, 0);
        x.setGradient(8, 8, 40);
        CHECK.due("a cell behind the fifth does not count", x.brakingDistance(3), 5);
        x.setGradient(2, 2, -40);
        CHECK.due("a cell before the first does not count", x.brakingDistance(3), 5);
        CHECK.due("from a cell before", x.brakingDistance(2), 6);
        CHECK.due("from a cell behind", x.brakingDistance(4), 4 + 1);
    }

    /** "over the n cells from cell x + r on" */
    private static void reactionMovesTheBegin() {
        // 72 km/h for 25 tenths is one cell to the last, for 26 it is two.
        SignalSpacing x = flat(20, 72, 80, 25);
        x.setGradient(5, 5, -40);
        CHECK.due("cell 5 is the one of the reaction", x.brakingDistance(5), 1 + 5);
        CHECK.due("cell 5 is the first one of braking", x.brakingDistance(4), 1 + 6);
        CHECK.due("cell 5 is the last one of braking", x.brakingDistance(0), 1 + 6);
        x.setTrain(80, 26, 4);
        CHECK.due("cell 5 is the second one of the reaction", x.brakingDistance(4), 2 + 5);
        CHECK.due("cell 5 is the first one behind two", x.brakingDistance(3), 2 + 6);
        x.setTrain(80, 0, 4);
        CHECK.due("no reaction: cell 5 is the first one", x.brakingDistance(5), 6);
        CHECK.due("no reaction: cell 5 is behind", x.brakingDistance(0), 5);
    }

    /** "for cells behind the line, the value of cell L - 1 is used" */
    private static void cellsBehindTheLine() {
        for (int cells : new int[] {10, 60, 120}) {
            SignalSpacing x = flat(cells, 72, 80, 0);
            // The last cell takes 1620 * 100: four of them take 648000, to the last.
            x.setGradient(cells - 1, cells - 1, 20);
            CHECK.due("all cells are behind the line", x.brakingDistance(cells), 4);
            CHECK.due("all but the last one", x.brakingDistance(cells - 1), 4);
            CHECK.due("all but two: 80 and 4 times 100", x.brakingDistance(cells - 2), 5);
            CHECK.due("only the last one is uphill", x.brakingDistance(cells - 5), 5);
            x.setGradient(cells - 1, cells - 1, -40);
            CHECK.due("downhill: ten times 40", x.brakingDistance(cells), 10);
            CHECK.due("downhill: 80 and eight times 40", x.brakingDistance(cells - 2), 9);
            CHECK.due("the cell before the last one counts only there", x.brakingDistance(cells - 5), 4 + 2);
            x.setTrain(80, 25, 4);
            CHECK.due("braking begins at the last cell", x.brakingDistance(cells - 2), 1 + 10);
            CHECK.due("braking begins at the end of the line", x.brakingDistance(cells - 1), 1 + 10);
            x.setTrain(80, 100, 4);
            CHECK.due("braking begins far behind the line", x.brakingDistance(cells), 4 + 10);
            CHECK.due("braking begins on the line", x.brakingDistance(cells - 6), 4 + 1 + 8);
        }
    }

    private static void longestBrakingDistance() {
        for (int cells : new int[] {10, 120}) {
            SignalSpacing x = flat(cells, 160, 50, 100);
            x.setGradient(0, cells - 1, -40);
            // 3200000 / 16200 = 197.5, and 16000 / 1800 = 8.9
            CHECK.due("the longest of all from 0", x.brakingDistance(0), 198 + 9);
            CHECK.due("the longest of all from the end", x.brakingDistance(cells), 198 + 9);
        }
        SignalSpacing y = flat(10, 20, 200, 0);
        y.setGradient(0, 9, 40);
        CHECK.due("the shortest of all from 0", y.brakingDistance(0), 1);
        CHECK.due("the shortest of all from the end", y.brakingDistance(10), 1);
    }

    /** "180000 / (profile speed at position c), rounded up" */
    private static void runningTimeRoundedUp() {
        int[][] cases = {{20, 9000}, {21, 8572}, {90, 2000}, {91, 1979}, {89, 2023}, {120, 1500}, {121, 1488},
            {159, 1133}, {160, 1125}, {80, 2250}, {81, 2223}, {150, 1200}, {125, 1440}, {97, 1856}};
        for (int[] c : cases) {
            SignalSpacing x = flat(10, c[0], 80, 20);
            CHECK.due("a cell at " + c[0] + " km/h", x.travelTime(0, 1), c[1]);
            CHECK.due("the last cell at " + c[0] + " km/h", x.travelTime(9, 10), c[1]);
            CHECK.due("ten cells at " + c[0] + " km/h", x.travelTime(0, 10), 10 * c[1]);
        }
    }

    /** "the sum of the running times of the cells between them": of none, of one, of all. */
    private static void sumOfRunningTimes() {
        for (int cells : new int[] {10, 60, 120}) {
            SignalSpacing x = flat(cells, 20, 80, 20);
            x.setLimit(0, 0, 90);
            x.setTrain(200, 20, 4);
            // 50000 + 324000 = 125 * 2992, whose root is 54.
            CHECK.due("the first cell brakes", x.travelTime(0, 1), 3334);
            CHECK.due("the second one does not", x.travelTime(1, 2), 9000);
            CHECK.due("both", x.travelTime(0, 2), 12334);
            CHECK.due("all", x.travelTime(0, cells), 3334 + 9000 * (cells - 1));
            CHECK.due("all but the first", x.travelTime(1, cells), 9000 * (cells - 1));
            CHECK.due("all but the last", x.travelTime(0, cells - 1), 3334 + 9000 * (cells - 2));
            for (int position = 0; position <= cells; position++) {
                CHECK.due("none", x.travelTime(position, position), 0);
            }
        }
    }
}
