import java.util.Arrays;

/**
 * Each sentence of the document that names a bound has a test of its own here: the last value that is taken, the
 * first one that is refused, the empty object and the full one. The answers were worked out by hand; those of the
 * LEVELS by a reckoning outside Java. No object is asked more than 512 times.
 */
public final class BoundaryTests {
    private static final int BAD = -1;
    private static final int NONE = -2;
    private static final int FULL = -3;
    private static final int BAD_PART = -1000;
    private static final int LOW = Integer.MIN_VALUE;
    private static final int HIGH = Integer.MAX_VALUE;

    // what LEVELS the numbers 0, 1 .. have with these seeds
    private static final int FLAT = 249513;       // 63 times 0
    private static final int SECOND_HIGH = 8;     // 0 1 0 0 0 0 1 0 4
    private static final int ONE_THREE = 1929;    // 1 3 0 2
    private static final int EIGHT_UP = 1607392;  // 3 1 1 1 1 1 1 1
    private static final int THREE_TOP = 1614680; // 4 4 4
    private static final int RISING = 1841838;    // 0 0 0 1 1 2 1 2 0 1 3 0 1 3 0 0 4 0 0 1 0 0 2 1 0 4

    private static int wrong = 0;
    private static String sentence = "";

    public static void main(String[] args) {
        termsOfVectors();
        termsOfLevels();
        termsOfTheGraph();
        promises1To8();
        promises9To13();
        promises14To21();
        emptyObject();
        fullObject();
        System.out.println(wrong == 0 ? "all answers are as due" : wrong + " answers are not as due");
        if (wrong != 0) {
            System.exit(1);
        }
    }

    private static void due(String what, int got, int want) {
        if (got != want) {
            wrong++;
            System.out.println(sentence + ": " + what + " answered " + got + ", due is " + want);
        }
    }

    private static void foundAre(VectorGraphs x, int... want) {
        due("count(8)", x.count(8), want.length);
        due("at(-1)", x.at(-1), BAD);
        for (int k = 0; k < want.length; k++) {
            due("at(" + k + ")", x.at(k), want[k]);
        }
        due("at(" + want.length + ")", x.at(want.length), BAD);
    }

    private static void rowIs(VectorGraphs x, int i, int level, int... want) {
        String row = "neighbour(" + i + ", " + level + ", ";
        due(row + "-1)", x.neighbour(i, level, -1), want.length);
        due(row + "-2)", x.neighbour(i, level, -2), BAD);
        for (int k = 0; k < want.length; k++) {
            due(row + k + ")", x.neighbour(i, level, k), want[k]);
        }
        due(row + want.length + ")", x.neighbour(i, level, want.length), BAD);
    }

    private static void countsAre(VectorGraphs x, int vectors, int removed, int barred, int free) {
        due("count(0)", x.count(0), vectors);
        due("count(1)", x.count(1), removed);
        due("count(2)", x.count(2), barred);
        due("count(3)", x.count(3), free);
    }

    private static int[] upTo(int first, int last) {
        int[] row = new int[Math.abs(last - first) + 1];
        for (int k = 0; k < row.length; k++) {
            row[k] = first + (last < first ? -k : k);
        }
        return row;
    }

    private static VectorGraphs addAll(VectorGraphs x, int... values) {
        for (int v : values) {
            x.part(0, v);
            x.add();
        }
        return x;
    }

    private static VectorGraphs line(int seed, int... values) {
        return addAll(new VectorGraphs(1, seed), values);
    }

    private static VectorGraphs plainLine(int seed, int width, int... values) {
        VectorGraphs x = new VectorGraphs(1, seed);
        x.rule(2, 0);
        x.rule(1, width);
        return addAll(x, values);
    }

    /** 200 calls: -50 .. 49, each a neighbour of the next; 49 is at hand. */
    private static VectorGraphs fullLine() {
        return line(FLAT, upTo(-50, 49));
    }

    // ---- Terms, 1 ----

    private static void termsOfVectors() {
        partsOneToEight();
        partsFromMinus100To100();
        handIsZeroAtFirst();
        numberedAsTheyCome();
        barredAndRemoved();
        removedStayTillCleaned();
        leastAndGreatestFar();
        sameFarGoesByNumber();
    }

    private static void partsOneToEight() {
        sentence = "Terms: VECTORS have PARTS (1 .. 8)";
        for (int parts = 1; parts <= 8; parts++) {
            VectorGraphs x = new VectorGraphs(parts, 3);
            due("count(4)", x.count(4), parts);
            x.add();
            due("part(-1, 1) of " + parts, x.part(-1, 1), BAD_PART);
            due("part(" + parts + ", 1) of " + parts, x.part(parts, 1), BAD_PART);
            due("far(0)", x.far(0), 0);
            for (int k = 0; k < parts; k++) {
                due("part(" + k + ", 1) of " + parts, x.part(k, 1), 0);
                due("far(0): each part counts", x.far(0), k + 1);
            }
        }
    }

    private static void partsFromMinus100To100() {
        sentence = "Terms: each - 100 .. 100";
        VectorGraphs x = new VectorGraphs(8, 3);
        int[] refused = {-101, 101, -1000, 1000, LOW, HIGH};
        for (int k = 0; k < 8; k++) {
            due("part(" + k + ", -100)", x.part(k, -100), 0);
            for (int v : refused) {
                due("part(" + k + ", " + v + ")", x.part(k, v), BAD_PART);
            }
            due("part(" + k + ", 100)", x.part(k, 100), -100);
            for (int v : refused) {
                due("part(" + k + ", " + v + ")", x.part(k, v), BAD_PART);
            }
            due("part(" + k + ", 0)", x.part(k, 0), 100);
        }
    }

    private static void handIsZeroAtFirst() {
        sentence = "Terms: THE VECTOR at hand has PARTS of its own (0 at first)";
        VectorGraphs x = new VectorGraphs(8, 3);
        x.add();
        for (int k = 0; k < 8; k++) {
            due("part(" + k + ", 9)", x.part(k, 9), 0);
        }
        due("far(0): the one that came is all 0", x.far(0), 8 * 81);
        due("between(0, 0)", x.between(0, 0), 0);
    }

    private static void numberedAsTheyCome() {
        sentence = "Terms: numbered 0, 1 .. as they come, 100 at most";
        VectorGraphs x = new VectorGraphs(1, 3);
        for (int i = 0; i < 100; i++) {
            due("count(0)", x.count(0), i);
            due("add()", x.add(), i);
        }
        due("add() at 100", x.add(), FULL);
        due("count(0) at 100", x.count(0), 100);
    }

    private static void barredAndRemoved() {
        sentence = "Terms: some are BARRED, some REMOVED; others are FREE";
        VectorGraphs x = line(FLAT, 0, 1, 2, 3);
        countsAre(x, 4, 0, 0, 4);
        x.bar(0, true);
        countsAre(x, 4, 0, 1, 3);
        x.remove(1);
        countsAre(x, 4, 1, 1, 2);
        x.remove(0);
        countsAre(x, 4, 2, 1, 2);
        x.bar(1, true);
        countsAre(x, 4, 2, 2, 2);
        x.bar(0, false);
        countsAre(x, 4, 2, 1, 2);
        x.exact(4);
        foundAre(x, 3, 2);
    }

    private static void removedStayTillCleaned() {
        sentence = "Terms: REMOVED ones stay in the graph till it is cleaned";
        VectorGraphs x = line(FLAT, 0, 10, 20);
        x.remove(0);
        x.remove(1);
        due("entry()", x.entry(), 0);
        due("reached()", x.reached(), 3);
        rowIs(x, 0, 0, 1);
        rowIs(x, 1, 0, 0, 2);
        rowIs(x, 2, 0, 1);
        due("look(2, 2): one of FOUND is FREE", x.look(2, 2), 1);
        foundAre(x, 2);
        x.part(0, 19);
        x.add();
        rowIs(x, 3, 0, 2, 1);
        x.remove(2);
        x.remove(3);
        due("look(4, 4): none is FREE", x.look(4, 4), 0);
        due("steps() among removed ones", x.steps(), 4);
        due("clean()", x.clean(), 4);
        due("entry()", x.entry(), NONE);
        due("reached()", x.reached(), 0);
    }

    private static void leastAndGreatestFar() {
        sentence = "Terms: FAR of two, by the MEASURE, at its bounds";
        int[] greatest = {40000, 20000, 200};
        for (int parts = 1; parts <= 8; parts += 7) {
            VectorGraphs x = new VectorGraphs(parts, 3);
            for (int sign = -1; sign <= 1; sign += 2) {
                for (int k = 0; k < parts; k++) {
                    x.part(k, sign * 100);
                }
                x.add();
            }
            for (int measure = 0; measure <= 2; measure++) {
                x.rule(0, measure);
                due("far(1), the least by " + measure, x.far(1), 0);
                due("between(0, 0), the least by " + measure, x.between(0, 0), 0);
                due("far(0), the greatest by " + measure, x.far(0), greatest[measure] * parts);
                due("between(1, 0), the greatest by " + measure, x.between(1, 0), greatest[measure] * parts);
            }
        }
    }

    private static void sameFarGoesByNumber() {
        sentence = "Terms: BEFORE, if its FAR is the same and its number is less";
        VectorGraphs x = line(FLAT, 5, -5, 5, -5);
        x.part(0, 0);
        for (int measure = 0; measure <= 2; measure += 2) {
            x.rule(0, measure);
            for (int n = 1; n <= 4; n++) {
                x.exact(n);
                foundAre(x, upTo(0, n - 1));
                x.brief(n, n, 100);
                foundAre(x, upTo(0, n - 1));
                x.brief(n, n, 1);
                foundAre(x, upTo(0, n - 1));
            }
        }
        VectorGraphs y = plainLine(FLAT, 2, 5, -5, 5, -5, 0);
        rowIs(y, 4, 0, 0, 1, 2, 3);
        for (int n = 1; n <= 5; n++) {
            due("recall(n, 5)", y.recall(n, 5), n);
        }
        y.look(5, 5);
        foundAre(y, 4, 0, 1, 2, 3);
    }

    // ---- Terms, 1: the LEVEL ----

    private static void termsOfLevels() {
        levelsWrapAround();
        levelsAreZerosHalved();
        levelsOfOtherNumbers();
    }

    private static void levelsWrapAround() {
        sentence = "Terms: LEVEL of number i, which wraps around";
        int[] seeds = {LOW, HIGH, -1, 0, 99};
        String[] due = {
            "1020000201000010010000001010000001100000000000000002110000010100000011100300001001000000100001100000",
            "0001111102010101001100000000001100000000001000000010130000000001000002100000100000100200000000021000",
            "0001211201020102002300000000002300000000001000000010110000000001000001100000200000100100000000011000",
            "4010000101000010010000001010000001100000000000000001110000020100000021100100001001000000100002100000",
            "0000000002000000000100000120000000000112001001000010000000010120011000000000000010000011200000100104"};
        for (int s = 0; s < seeds.length; s++) {
            VectorGraphs x = new VectorGraphs(1, seeds[s]);
            for (int i = 0; i < 100; i++) {
                x.add();
            }
            for (int i = 0; i < 100; i++) {
                due("level(" + i + ") with seed " + seeds[s], x.level(i), due[s].charAt(i) - '0');
            }
        }
    }

    /** In each row: a seed, how many lowest bits of number 0 are 0, and the LEVEL. */
    private static final int[][] ZEROS = {
        {3, 0, 0}, {4, 0, 0}, {1, 1, 0}, {8, 1, 0}, {2, 2, 1}, {7, 2, 1}, {14, 3, 1}, {17, 3, 1}, {59, 4, 2},
        {93, 5, 2}, {129, 5, 2}, {235, 6, 3}, {147, 7, 3}, {209, 7, 3}, {418, 8, 4}, {950, 9, 4}, {347, 10, 4},
        {1232, 11, 4}, {5286, 12, 4}, {26551, 13, 4}, {384361, 16, 4}, {50690, 19, 4}, {1970574, 21, 4}, {0, 32, 4}};

    private static void levelsAreZerosHalved() {
        sentence = "Terms: how many of its lowest bits are 0, halved (whole); 4 at most";
        for (int[] row : ZEROS) {
            VectorGraphs x = line(row[0], 0);
            due("level(0) with seed " + row[0] + ", " + row[1] + " bits", x.level(0), row[2]);
            due("neighbour(0, LEVEL, -1)", x.neighbour(0, row[2], -1), 0);
            due("neighbour(0, LEVEL + 1, -1)", x.neighbour(0, row[2] + 1, -1), BAD);
        }
    }

    private static void levelsOfOtherNumbers() {
        sentence = "Terms: LEVEL of number i, seed xor i";
        for (int[] row : ZEROS) {
            VectorGraphs x = line(row[0] ^ 99, new int[100]);
            due("level(99) with seed " + (row[0] ^ 99), x.level(99), row[2]);
        }
    }

    // ---- Terms, 2 ----

    private static void termsOfTheGraph() {
        plainRowsAtLevel0();
        plainRowsAbove();
        carefulRowsAtMost();
        rowsAtTheTopLevel();
        entryIsTheFirstOfTheGreatest();
        goingWithE();
        goingWithTheSameFar();
        goingEndsBeforeOpenIsEmpty();
        chosenAnewOnlyIfTooMany();
        carefulIsLessNotTheSame();
        aloneItIsTheEntry();
        lesserOfBothLevels();
        twelveAreFoundOnComing();
        wayBackStays();
        anewByNumberWithRemoved();
        lookingForSixty();
    }

    private static void plainRowsAtLevel0() {
        sentence = "Terms: WIDTH (2 .. 6) at most, at level 0 twice as many";
        for (int width = 2; width <= 6; width++) {
            VectorGraphs x = plainLine(FLAT, width, upTo(0, 39));
            rowIs(x, 0, 0, upTo(1, 2 * width));
            rowIs(x, 39, 0, upTo(38, 39 - 2 * width));
            int[] around = new int[2 * width];
            for (int k = 0; k < width; k++) {
                around[2 * k] = 19 - k;
                around[2 * k + 1] = 21 + k;
            }
            rowIs(x, 20, 0, around);
        }
    }

    private static void plainRowsAbove() {
        sentence = "Terms: WIDTH (2 .. 6) at most";
        int[] around3 = {2, 4, 1, 5, 0, 6};
        for (int width = 2; width <= 6; width++) {
            VectorGraphs x = plainLine(EIGHT_UP, width, upTo(0, 7));
            rowIs(x, 0, 1, upTo(1, width));
            rowIs(x, 7, 1, upTo(6, 7 - width));
            rowIs(x, 3, 1, Arrays.copyOf(around3, width));
            due("at level 0 it has more", x.neighbour(3, 0, -1), Math.min(7, 2 * width));
            rowIs(x, 0, 2);
        }
    }

    /** Around 0 sixteen that are nearer to it than to one another. */
    private static VectorGraphs star(int width, int firstRadius, int step) {
        VectorGraphs x = new VectorGraphs(8, FLAT);
        x.rule(1, width);
        x.add();
        for (int k = 0; k < 16; k++) {
            int radius = firstRadius + k * step;
            x.part(k % 8, k < 8 ? radius : -radius);
            x.add();
            x.part(k % 8, 0);
        }
        return x;
    }

    private static void carefulRowsAtMost() {
        sentence = "Terms: CAREFUL: .. w at most";
        for (int width = 2; width <= 6; width++) {
            VectorGraphs outwards = star(width, 50, 1);
            rowIs(outwards, 0, 0, upTo(1, 2 * width));
            rowIs(outwards, 16, 0, 0);
            due("reached()", outwards.reached(), 1 + 2 * width);
            VectorGraphs inwards = star(width, 70, -1);
            rowIs(inwards, 0, 0, upTo(16, 17 - 2 * width));
            rowIs(inwards, 1, 0, 0);
            due("reached()", inwards.reached(), 1 + 2 * width);
        }
    }

    private static void rowsAtTheTopLevel() {
        sentence = "Terms: for each of its levels 0 .. LEVEL a row; 4 at most";
        VectorGraphs x = line(THREE_TOP, 0, 10, 20);
        for (int level = 0; level <= 4; level++) {
            rowIs(x, 0, level, 1);
            rowIs(x, 1, level, 0, 2);
            rowIs(x, 2, level, 1);
        }
        for (int i = 0; i < 3; i++) {
            due("neighbour(i, 5, -1)", x.neighbour(i, 5, -1), BAD);
            due("neighbour(i, -1, -1)", x.neighbour(i, -1, -1), BAD);
        }
        x.part(0, 25);
        x.look(1, 1);
        foundAre(x, 2);
        due("steps(): 3 in level 4, 2 in each other one", x.steps(), 3 + 4 * 2);
    }

    private static void entryIsTheFirstOfTheGreatest() {
        sentence = "Terms: THE ENTRY: the one of greatest LEVEL (the one that came first of these)";
        int[] due = {0, 0, 0, 3, 3, 5, 5, 5, 5, 5, 10, 10, 10, 10, 10, 10, 16, 16, 16, 16, 16, 16, 16, 16, 16, 16};
        VectorGraphs x = new VectorGraphs(1, RISING);
        for (int i = 0; i < due.length; i++) {
            x.part(0, i);
            x.add();
            due("entry() with the last number " + i, x.entry(), due[i]);
        }
        for (int last = due.length - 2; last >= 0; last--) {
            x.remove(0);
            due("clean()", x.clean(), 1);
            due("entry() after clean(), the last number being " + last, x.entry(), due[last]);
        }
    }

    private static void goingWithE() {
        sentence = "Terms: GOING: if FOUND has e and the last of FOUND is before it: that is the end";
        VectorGraphs x = line(FLAT, 0, 10, 20, 30, 40);
        x.part(0, -5);
        for (int e = 1; e <= 7; e++) {
            due("look(1, " + e + ")", x.look(1, e), 1);
            due("steps() with e " + e, x.steps(), Math.min(5, e + 1));
            due("look(e, e)", x.look(e, e), Math.min(5, e));
            foundAre(x, upTo(0, Math.min(5, e) - 1));
        }
        x.part(0, 45);
        for (int e = 1; e <= 7; e++) {
            due("look(e, e)", x.look(e, e), Math.min(5, e));
            foundAre(x, upTo(4, 5 - Math.min(5, e)));
            due("steps(): all of the way", x.steps(), 5);
        }
    }

    private static void goingWithTheSameFar() {
        sentence = "Terms: GOING: or it is before the last of FOUND";
        // 1 is as far as 0, so that it does not come to OPEN, and 2 behind it is not met
        VectorGraphs fromFirst = line(FLAT, -5, 5, 15);
        fromFirst.part(0, 0);
        fromFirst.look(1, 1);
        foundAre(fromFirst, 0);
        due("steps() from 0", fromFirst.steps(), 2);
        VectorGraphs fromSecond = line(SECOND_HIGH, -5, 5);
        due("entry()", fromSecond.entry(), 1);
        fromSecond.part(0, 0);
        fromSecond.look(1, 1);
        foundAre(fromSecond, 0);
        due("steps() from 1: 1 in level 1, 2 in level 0", fromSecond.steps(), 3);
    }

    private static void goingEndsBeforeOpenIsEmpty() {
        sentence = "Terms: GOING: the last of FOUND is before it: that is the end";
        // 0 leads to 1 and then to 2, 1 alone leads to 3; 2 is nearer to the one at hand than 1 is
        VectorGraphs x = pairs(0, 0, 3, 8, 10, 0, 3, 20);
        rowIs(x, 0, 0, 1, 2);
        rowIs(x, 1, 0, 0, 3);
        rowIs(x, 2, 0, 0);
        rowIs(x, 3, 0, 1);
        x.part(0, 20);
        x.part(1, 0);
        int[] order = {2, 1, 0, 3};
        for (int e = 1; e <= 5; e++) {
            int many = Math.min(4, e);
            due("look(e, e)", x.look(e, e), many);
            foundAre(x, Arrays.copyOf(order, many));
            due("steps() with e " + e, x.steps(), e == 1 ? 3 : 4);
        }
        sentence = "Terms: GOING: the last of FOUND is before it, as far but of a lesser number";
        // 0 leads to 2 and then to 1, which are as far from the one at hand; 2 alone leads to 3
        VectorGraphs y = pairs(0, 0, 10, 0, 4, 8, 4, 20);
        rowIs(y, 0, 0, 2, 1);
        rowIs(y, 2, 0, 0, 3);
        y.part(0, 15);
        y.part(1, 10);
        due("far(1)", y.far(1), 125);
        due("far(2)", y.far(2), 125);
        y.look(1, 1);
        foundAre(y, 1);
        due("steps() with e 1", y.steps(), 3);
        y.look(1, 2);
        foundAre(y, 1);
        due("steps() with e 2", y.steps(), 4);
    }

    private static VectorGraphs pairs(int... values) {
        return addPairs(new VectorGraphs(2, FLAT), values);
    }

    private static VectorGraphs addPairs(VectorGraphs x, int... values) {
        for (int k = 0; k + 1 < values.length; k += 2) {
            x.part(0, values[k]);
            x.part(1, values[k + 1]);
            x.add();
        }
        return x;
    }

    private static void chosenAnewOnlyIfTooMany() {
        sentence = "Terms: if that has too many then, they are CHOSEN out of all of them anew";
        VectorGraphs x = new VectorGraphs(2, FLAT);
        x.rule(1, 2);
        addPairs(x, 0, 0, 50, 0, 0, 51, 20, 0, -52, 0);
        // 3 hides 1 from 0, but four are not too many
        rowIs(x, 0, 0, 3, 1, 2, 4);
        addPairs(x, 0, -53);
        rowIs(x, 0, 0, 3, 2, 4, 5);
        rowIs(x, 1, 0, 3, 0);
        sentence = "Terms: if that has too many then, PLAIN";
        VectorGraphs y = new VectorGraphs(2, FLAT);
        y.rule(1, 2);
        y.rule(2, 0);
        addPairs(y, 0, 0, 50, 0, 0, 51, 20, 0, -52, 0);
        rowIs(y, 0, 0, 3, 1, 2, 4);
        addPairs(y, 0, -53);
        rowIs(y, 0, 0, 3, 1, 2, 4);
        addPairs(y, 1, 0);
        rowIs(y, 0, 0, 6, 3, 1, 2);
    }

    private static void carefulIsLessNotTheSame() {
        sentence = "Terms: CAREFUL: if its FAR from it is less than its FAR from each that was taken";
        rowIs(line(FLAT, 5, 0, 0), 2, 0, 1);
        rowIs(line(FLAT, 5, -1, 0), 2, 0, 1, 0);
        rowIs(line(FLAT, 5, 1, 0), 2, 0, 1);
    }

    private static void aloneItIsTheEntry() {
        sentence = "Terms: alone it is THE ENTRY";
        for (int seed : new int[] {FLAT, EIGHT_UP, THREE_TOP}) {
            VectorGraphs x = line(seed, 7);
            due("entry()", x.entry(), 0);
            for (int level = 0; level <= x.level(0); level++) {
                rowIs(x, 0, level);
            }
            due("reached()", x.reached(), 1);
            due("look(60, 60)", x.look(60, 60), 1);
            due("steps(): one in each level", x.steps(), 1 + x.level(0));
        }
    }

    private static void lesserOfBothLevels() {
        sentence = "Terms: from the lesser of both LEVELS down to 0";
        VectorGraphs x = line(ONE_THREE, 0, 10, 20, 30);
        due("entry()", x.entry(), 1);
        rowIs(x, 0, 0, 1);
        rowIs(x, 0, 1, 1);
        due("neighbour(0, 2, -1)", x.neighbour(0, 2, -1), BAD);
        rowIs(x, 1, 0, 0, 2);
        rowIs(x, 1, 1, 0, 3);
        rowIs(x, 1, 2, 3);
        rowIs(x, 1, 3);
        due("neighbour(1, 4, -1)", x.neighbour(1, 4, -1), BAD);
        rowIs(x, 2, 0, 1, 3);
        due("neighbour(2, 1, -1)", x.neighbour(2, 1, -1), BAD);
        rowIs(x, 3, 0, 2);
        rowIs(x, 3, 1, 1);
        rowIs(x, 3, 2, 1);
        due("neighbour(3, 3, -1)", x.neighbour(3, 3, -1), BAD);
    }

    private static void twelveAreFoundOnComing() {
        sentence = "Terms: A VECTOR comes to the graph: GOING from AT with 12";
        // -70 would be taken if it were among FOUND: the others hide one another, but not it
        VectorGraphs twelfth = line(FLAT, upTo(50, 60));
        addAll(twelfth, -70, 0);
        rowIs(twelfth, 12, 0, 0, 11);
        VectorGraphs thirteenth = line(FLAT, upTo(50, 61));
        addAll(thirteenth, -70, 0);
        rowIs(thirteenth, 13, 0, 0);
    }

    /** PLAIN and narrow: nobody has 0 as a neighbour any more, and THE ENTRY is 1. */
    private static VectorGraphs islandLine() {
        return plainLine(SECOND_HIGH, 2, -100, 96, 97, 98, 99, 100);
    }

    private static void wayBackStays() {
        sentence = "Terms: of those that go the way back stays";
        VectorGraphs x = islandLine();
        rowIs(x, 0, 0, 1, 2, 3, 4);
        rowIs(x, 1, 0, 2, 3, 4, 5);
        rowIs(x, 2, 0, 1, 3, 4, 5);
        due("reached() from 1", x.reached(), 5);
    }

    private static void anewByNumberWithRemoved() {
        sentence = "Terms: ANEW: the graph is made of all VECTORS, REMOVED ones too, by number";
        VectorGraphs x = line(FLAT, 0, 10, 20);
        x.remove(0);
        x.remove(1);
        x.rule(2, 0);
        rowIs(x, 0, 0, 1, 2);
        rowIs(x, 1, 0, 0, 2);
        rowIs(x, 2, 0, 1, 0);
        due("entry()", x.entry(), 0);
        due("count(1): they still are REMOVED", x.count(1), 2);
        due("remove(0)", x.remove(0), 0);
    }

    private static void lookingForSixty() {
        sentence = "Terms: LOOKING for the n nearest with e (n to 60)";
        for (int many = 59; many <= 61; many++) {
            VectorGraphs x = line(FLAT, upTo(1, many));
            due("look(60, 60) of " + many, x.look(60, 60), Math.min(60, many));
            foundAre(x, upTo(many - 1, Math.max(0, many - 60)));
            due("steps()", x.steps(), many);
            due("recall(60, 60)", x.recall(60, 60), Math.min(60, many));
            due("look(61, 61)", x.look(61, 61), BAD);
            due("look(60, 61)", x.look(60, 61), BAD);
            due("recall(61, 61)", x.recall(61, 61), BAD);
            due("recall(60, 61)", x.recall(60, 61), BAD);
        }
    }

    // ---- Promises 1 to 8 ----

    private static void promises1To8() {
        newObject();
        part();
        add();
        addAgainAfterClean();
        take();
        remove();
        bar();
        cleanOfNone();
        cleanOfSome();
        cleanOfAll();
        ruleMeasure();
        ruleWidth();
        ruleCareful();
        ruleOfAnotherNumber();
    }

    private static void newObject() {
        sentence = "Promise 1: PARTS 1 .. 8 (others as the nearest)";
        int[] few = {LOW, LOW + 1, -100, -2, -1, 0, 1};
        for (int parts : few) {
            VectorGraphs x = new VectorGraphs(parts, 3);
            due("count(4) of " + parts, x.count(4), 1);
            due("part(0, 5)", x.part(0, 5), 0);
            due("part(1, 5)", x.part(1, 5), BAD_PART);
        }
        int[] many = {8, 9, 10, 100, HIGH - 1, HIGH};
        for (int parts : many) {
            VectorGraphs x = new VectorGraphs(parts, 3);
            due("count(4) of " + parts, x.count(4), 8);
            due("part(7, 5)", x.part(7, 5), 0);
            due("part(8, 5)", x.part(8, 5), BAD_PART);
        }
        due("count(4) of 2", new VectorGraphs(2, 3).count(4), 2);
        due("count(4) of 7", new VectorGraphs(7, 3).count(4), 7);
        sentence = "Promise 1: MEASURE 0, WIDTH 4, CAREFUL; no VECTORS";
        for (int seed : new int[] {LOW, -1, 0, 1, HIGH}) {
            VectorGraphs x = new VectorGraphs(4, seed);
            countsAre(x, 0, 0, 0, 0);
            due("rule(0, 1)", x.rule(0, 1), 0);
            due("rule(1, 2)", x.rule(1, 2), 4);
            due("rule(2, 0)", x.rule(2, 0), 1);
        }
    }

    private static void part() {
        sentence = "Promise 2: BAD (- 1,000): none such, not - 100 .. 100";
        VectorGraphs x = new VectorGraphs(3, 3);
        due("part(0, 7)", x.part(0, 7), 0);
        due("part(2, 8)", x.part(2, 8), 0);
        int[][] refused = {{-1, 0}, {3, 0}, {LOW, 0}, {HIGH, 0}, {0, -101}, {0, 101}, {2, -101}, {2, 101},
            {0, LOW}, {0, HIGH}, {-1, -101}, {3, 101}};
        for (int[] r : refused) {
            due("part(" + r[0] + ", " + r[1] + ")", x.part(r[0], r[1]), BAD_PART);
        }
        due("part(0, -1)", x.part(0, -1), 7);
        due("part(1, -1)", x.part(1, -1), 0);
        due("part(2, -1)", x.part(2, -1), 8);
        due("part(0, 1): a PART that was -1 is no BAD", x.part(0, 1), -1);
    }

    private static void add() {
        sentence = "Promise 3: THE VECTOR at hand comes (it stays at hand)";
        VectorGraphs x = new VectorGraphs(2, 3);
        x.part(1, 100);
        due("add()", x.add(), 0);
        due("add()", x.add(), 1);
        due("between(0, 1)", x.between(0, 1), 0);
        due("part(1, -100)", x.part(1, -100), 100);
        due("far(0): what came is as it was", x.far(0), 40000);
        due("far(1)", x.far(1), 40000);
    }

    private static void addAgainAfterClean() {
        sentence = "Promise 3: FULL: 100";
        VectorGraphs x = fullLine();
        due("add()", x.add(), FULL);
        x.remove(0);
        x.remove(99);
        due("add(): REMOVED ones still count", x.add(), FULL);
        x.bar(1, true);
        due("clean()", x.clean(), 2);
        due("add()", x.add(), 98);
        due("add()", x.add(), 99);
        due("add()", x.add(), FULL);
        due("add() again", x.add(), FULL);
        countsAre(x, 100, 0, 1, 99);
        due("far(99)", x.far(99), 0);
        due("far(97): 48 has closed up", x.far(97), 1);
    }

    private static void take() {
        sentence = "Promise 4: BAD: none such";
        VectorGraphs x = line(FLAT, 10, 20, 30);
        x.part(0, 5);
        for (int i : new int[] {-1, 3, 4, 99, 100, LOW, HIGH}) {
            due("take(" + i + ")", x.take(i), BAD);
            due("part(0, 5)", x.part(0, 5), 5);
        }
        due("take(0)", x.take(0), 1);
        due("part(0, 5)", x.part(0, 5), 10);
        due("take(2)", x.take(2), 1);
        due("part(0, 5)", x.part(0, 5), 30);
        x.remove(1);
        x.bar(2, true);
        due("take(1), a REMOVED one", x.take(1), 1);
        due("part(0, 5)", x.part(0, 5), 20);
        due("take(2), a BARRED one", x.take(2), 1);
        due("part(0, 5)", x.part(0, 5), 30);
        x.clean();
        due("take(2) after clean()", x.take(2), BAD);
        due("take(1) after clean()", x.take(1), 1);
        due("part(0, 5)", x.part(0, 5), 30);
    }

    private static void remove() {
        sentence = "Promise 5: 1; 0: it was. BAD: none such";
        VectorGraphs x = line(FLAT, 10, 20, 30);
        for (int i : new int[] {-1, 3, 99, 100, LOW, HIGH}) {
            due("remove(" + i + ")", x.remove(i), BAD);
        }
        countsAre(x, 3, 0, 0, 3);
        due("remove(0)", x.remove(0), 1);
        due("remove(2)", x.remove(2), 1);
        due("remove(0) again", x.remove(0), 0);
        due("remove(2) again", x.remove(2), 0);
        due("remove(3)", x.remove(3), BAD);
        countsAre(x, 3, 2, 0, 1);
        x.bar(1, true);
        due("remove(1), a BARRED one", x.remove(1), 1);
        countsAre(x, 3, 3, 1, 0);
        x.clean();
        due("remove(0) when all went", x.remove(0), BAD);
    }

    private static void bar() {
        sentence = "Promise 6: 1 it was, 0. BAD: none such";
        VectorGraphs x = line(FLAT, 10, 20, 30);
        for (int i : new int[] {-1, 3, 99, 100, LOW, HIGH}) {
            due("bar(" + i + ", true)", x.bar(i, true), BAD);
            due("bar(" + i + ", false)", x.bar(i, false), BAD);
        }
        countsAre(x, 3, 0, 0, 3);
        for (int i = 0; i < 3; i++) {
            due("bar(i, false)", x.bar(i, false), 0);
            due("bar(i, true)", x.bar(i, true), 0);
            due("bar(i, true)", x.bar(i, true), 1);
            countsAre(x, 3, 0, i + 1, 2 - i);
        }
        due("exact(3) when all are BARRED", x.exact(3), 0);
        due("look(3, 3)", x.look(3, 3), 0);
        due("recall(3, 3)", x.recall(3, 3), 0);
        due("brief(3, 3, 1)", x.brief(3, 3, 1), 0);
        foundAre(x);
        due("bar(1, false)", x.bar(1, false), 1);
        due("bar(1, false)", x.bar(1, false), 0);
        countsAre(x, 3, 0, 2, 1);
        due("exact(3)", x.exact(3), 1);
        foundAre(x, 1);
    }

    private static void cleanOfNone() {
        sentence = "Promise 7: how many went (none)";
        VectorGraphs x = line(FLAT, 10, 20, 30);
        x.bar(1, true);
        x.exact(3);
        due("clean()", x.clean(), 0);
        countsAre(x, 3, 0, 1, 2);
        foundAre(x);
        rowIs(x, 1, 0, 0, 2);
        due("part(0, 30)", x.part(0, 30), 30);
    }

    private static void cleanOfSome() {
        sentence = "Promise 7: others close up (BARRED ones stay so)";
        VectorGraphs x = line(FLAT, 10, 20, 30, 40, 50);
        x.bar(0, true);
        x.bar(1, true);
        x.bar(4, true);
        x.remove(0);
        x.remove(2);
        due("clean()", x.clean(), 2);
        countsAre(x, 3, 0, 2, 1);
        int[] values = {20, 40, 50};
        int[] barred = {1, 0, 1};
        for (int i = 0; i < 3; i++) {
            x.take(i);
            due("part(0, 0)", x.part(0, 0), values[i]);
            due("bar(i, false)", x.bar(i, false), barred[i]);
        }
        due("take(3)", x.take(3), BAD);
        rowIs(x, 0, 0, 1);
        rowIs(x, 1, 0, 2, 0);
        rowIs(x, 2, 0, 1);
        due("add()", x.add(), 3);
        due("bar(3, true): a new one is not BARRED", x.bar(3, true), 0);
        due("remove(3): a new one is not REMOVED", x.remove(3), 1);
    }

    private static void cleanOfAll() {
        sentence = "Promise 7: REMOVED ones go (all)";
        VectorGraphs x = line(SECOND_HIGH, 10, 20, 30);
        for (int i = 0; i < 3; i++) {
            x.bar(i, true);
            x.remove(i);
        }
        due("clean()", x.clean(), 3);
        countsAre(x, 0, 0, 0, 0);
        due("entry()", x.entry(), NONE);
        due("level(0)", x.level(0), BAD);
        due("neighbour(0, 0, -1)", x.neighbour(0, 0, -1), BAD);
        due("clean() again", x.clean(), 0);
        due("add()", x.add(), 0);
        countsAre(x, 1, 0, 0, 1);
        due("far(0): 30 stayed at hand", x.far(0), 0);
        due("entry()", x.entry(), 0);
        rowIs(x, 0, 0);
    }

    private static void ruleMeasure() {
        sentence = "Promise 8: 0 MEASURE (0 .. 2)";
        VectorGraphs x = line(FLAT, 10, 30);
        int[] fars = {400, 9700, 20};
        int was = 0;
        for (int v : new int[] {0, 1, 2, 2, 1, 0, 2}) {
            due("rule(0, " + v + ")", x.rule(0, v), was);
            for (int refused : new int[] {-1, 3, LOW, HIGH}) {
                due("rule(0, " + refused + ")", x.rule(0, refused), BAD);
            }
            due("count(5)", x.count(5), v);
            due("between(0, 1)", x.between(0, 1), fars[v]);
            was = v;
        }
    }

    private static void ruleWidth() {
        sentence = "Promise 8: 1 WIDTH (2 .. 6)";
        VectorGraphs x = plainLine(FLAT, 4, upTo(0, 14));
        int was = 4;
        for (int v : new int[] {2, 3, 4, 5, 6, 6, 2}) {
            due("rule(1, " + v + ")", x.rule(1, v), was);
            for (int refused : new int[] {-1, 0, 1, 7, LOW, HIGH}) {
                due("rule(1, " + refused + ")", x.rule(1, refused), BAD);
            }
            due("count(6)", x.count(6), v);
            due("neighbour(14, 0, -1)", x.neighbour(14, 0, -1), 2 * v);
            was = v;
        }
    }

    private static void ruleCareful() {
        sentence = "Promise 8: 2 CAREFUL (1) or PLAIN (0)";
        VectorGraphs x = line(FLAT, 0, 1, 2, 3);
        int was = 1;
        for (int v : new int[] {1, 0, 0, 1, 0}) {
            due("rule(2, " + v + ")", x.rule(2, v), was);
            for (int refused : new int[] {-1, 2, LOW, HIGH}) {
                due("rule(2, " + refused + ")", x.rule(2, refused), BAD);
            }
            due("count(7)", x.count(7), v);
            due("neighbour(3, 0, -1)", x.neighbour(3, 0, -1), v == 1 ? 1 : 3);
            was = v;
        }
    }

    private static void ruleOfAnotherNumber() {
        sentence = "Promise 8: BAD: none such";
        VectorGraphs x = line(FLAT, 0, 1, 2, 3);
        for (int what : new int[] {-1, 3, 4, LOW, HIGH}) {
            for (int v = -1; v <= 7; v++) {
                due("rule(" + what + ", " + v + ")", x.rule(what, v), BAD);
            }
        }
        due("count(5)", x.count(5), 0);
        due("count(6)", x.count(6), 4);
        due("count(7)", x.count(7), 1);
    }

    // ---- Promises 9 to 13 ----

    private static void promises9To13() {
        exact();
        lookAndRecallBounds();
        lookWithoutVectors();
        briefBounds();
        briefShortForms();
        briefByProducts();
        briefOutOfM();
        recallLeavesAt();
        at();
        atAfterClean();
    }

    private static void exact() {
        sentence = "Promise 9: The n (1 .. 100) nearest FREE ones. BAD: another n";
        VectorGraphs x = line(FLAT, 0, 10, 20);
        due("exact(1)", x.exact(1), 1);
        foundAre(x, 2);
        for (int n : new int[] {0, -1, 101, LOW, HIGH}) {
            due("exact(" + n + ")", x.exact(n), BAD);
            foundAre(x, 2);
        }
        due("exact(2)", x.exact(2), 2);
        foundAre(x, 2, 1);
        for (int n : new int[] {3, 4, 60, 61, 99, 100}) {
            due("exact(" + n + ")", x.exact(n), 3);
            foundAre(x, 2, 1, 0);
        }
        x.bar(2, true);
        due("exact(1)", x.exact(1), 1);
        foundAre(x, 1);
        x.remove(1);
        due("exact(100)", x.exact(100), 1);
        foundAre(x, 0);
        x.bar(0, true);
        due("exact(1) without FREE ones", x.exact(1), 0);
        foundAre(x);
    }

    private static void lookAndRecallBounds() {
        sentence = "Promises 10, 12: n (1 .. 60) with e (n .. 60). BAD: none such";
        VectorGraphs x = line(FLAT, 0, 10, 20);
        x.look(2, 2);
        foundAre(x, 2, 1);
        int[][] refused = {{0, 0}, {0, 1}, {0, 60}, {-1, -1}, {-1, 60}, {1, 0}, {2, 1}, {60, 59}, {60, 61}, {61, 60},
            {61, 61}, {1, 61}, {1, -1}, {1, LOW}, {1, HIGH}, {LOW, 1}, {LOW, LOW}, {HIGH, 1}, {HIGH, HIGH}, {100, 100}};
        for (int[] r : refused) {
            due("look(" + r[0] + ", " + r[1] + ")", x.look(r[0], r[1]), BAD);
            due("recall(" + r[0] + ", " + r[1] + ")", x.recall(r[0], r[1]), BAD);
        }
        foundAre(x, 2, 1);
        due("steps()", x.steps(), 3);
        int[][] taken = {{1, 1}, {1, 60}, {2, 2}, {3, 3}, {3, 60}, {59, 59}, {59, 60}, {60, 60}};
        for (int[] t : taken) {
            int many = Math.min(3, t[0]);
            due("look(" + t[0] + ", " + t[1] + ")", x.look(t[0], t[1]), many);
            foundAre(x, upTo(2, 3 - many));
            due("recall(" + t[0] + ", " + t[1] + ")", x.recall(t[0], t[1]), many);
        }
    }

    private static void lookWithoutVectors() {
        sentence = "Promise 10: (Without VECTORS 0.)";
        VectorGraphs x = line(FLAT, 0, 10, 20);
        x.look(3, 3);
        due("steps()", x.steps(), 3);
        for (int i = 0; i < 3; i++) {
            x.remove(i);
        }
        x.clean();
        due("look(0, 1): BAD even so", x.look(0, 1), BAD);
        due("look(1, 1)", x.look(1, 1), 0);
        due("look(60, 60)", x.look(60, 60), 0);
        foundAre(x);
        due("steps()", x.steps(), 0);
        due("recall(60, 60)", x.recall(60, 60), 0);
        due("recall(60, 61)", x.recall(60, 61), BAD);
    }

    private static void briefBounds() {
        sentence = "Promise 11: n (1 .. 100), m (n .. 100), q (1 .. 100). BAD: none such";
        VectorGraphs x = line(FLAT, 0, 10, 20);
        x.brief(2, 2, 100);
        foundAre(x, 2, 1);
        int[][] refused = {{0, 0, 50}, {0, 1, 50}, {-1, 5, 50}, {1, 0, 50}, {2, 1, 50}, {100, 99, 50}, {100, 101, 50},
            {101, 100, 50}, {101, 101, 50}, {1, 101, 50}, {1, 1, 0}, {1, 1, -1}, {1, 1, 101}, {1, 1, LOW}, {1, 1, HIGH},
            {LOW, 1, 50}, {HIGH, HIGH, 50}, {1, LOW, 50}, {1, HIGH, 50}, {100, 100, 0}, {100, 100, 101}};
        for (int[] r : refused) {
            due("brief(" + r[0] + ", " + r[1] + ", " + r[2] + ")", x.brief(r[0], r[1], r[2]), BAD);
        }
        foundAre(x, 2, 1);
        int[][] taken = {{1, 1, 100}, {1, 100, 1}, {2, 2, 100}, {2, 100, 1}, {3, 3, 1}, {100, 100, 1}, {100, 100, 100},
            {99, 100, 99}, {99, 99, 2}};
        for (int[] t : taken) {
            int many = Math.min(3, t[0]);
            due("brief(" + t[0] + ", " + t[1] + ", " + t[2] + ")", x.brief(t[0], t[1], t[2]), many);
            foundAre(x, upTo(2, 3 - many));
        }
    }

    private static void briefShortForms() {
        sentence = "Promise 11: each PART times q, by 100, whole, towards 0";
        // with q 1 only 100 and -100 are not 0
        VectorGraphs x = line(FLAT, 100, -100, 99, -99);
        x.part(0, 99);
        x.brief(1, 1, 1);
        foundAre(x, 2);
        x.brief(2, 2, 1);
        foundAre(x, 2, 3);
        x.brief(3, 3, 1);
        foundAre(x, 2, 0, 3);
        x.part(0, 100);
        x.brief(1, 1, 1);
        foundAre(x, 0);
        x.part(0, -100);
        x.brief(1, 1, 1);
        foundAre(x, 1);
        x.part(0, -99);
        x.brief(1, 1, 1);
        foundAre(x, 2);
        // with q 99: 100, 99, 98 become 99, 98, 97; -1 and 1 become 0
        VectorGraphs y = line(FLAT, -1, 1, 2);
        y.part(0, 1);
        y.brief(1, 1, 99);
        foundAre(y, 0);
        y.brief(1, 1, 100);
        foundAre(y, 1);
        y.part(0, 3);
        y.brief(1, 1, 99);
        foundAre(y, 2);
    }

    private static void briefByProducts() {
        sentence = "Promise 11: (as MEASURE and number tell; 1: 100 q times PARTS less products)";
        VectorGraphs x = line(FLAT, -100, 100, 99, 50);
        x.rule(0, 1);
        x.part(0, 100);
        int[] byProducts = {1, 2, 3, 0};
        for (int n = 1; n <= 4; n++) {
            x.brief(n, 4, 1);
            foundAre(x, Arrays.copyOf(byProducts, n));
        }
        x.brief(2, 2, 1);
        foundAre(x, 1, 2);
        x.brief(1, 1, 1);
        foundAre(x, 1);
        x.part(0, -100);
        x.brief(1, 1, 1);
        foundAre(x, 0);
        x.part(0, 99);
        x.brief(1, 1, 1);
        foundAre(x, 0);
        x.rule(0, 2);
        x.brief(1, 1, 1);
        foundAre(x, 2);
    }

    private static void briefOutOfM() {
        sentence = "Promise 11: the m nearest FREE ones by these, of them the n nearest by the full ones";
        // with q 10 the short forms are 1 1 1 2; 9 is at hand, short 0
        VectorGraphs x = line(FLAT, 19, 18, 10, 20);
        x.part(0, 9);
        int[] nearest = {0, 1, 2, 2};
        for (int m = 1; m <= 4; m++) {
            due("brief(1, m, 10)", x.brief(1, m, 10), 1);
            foundAre(x, nearest[m - 1]);
        }
        x.bar(1, true);
        due("brief(1, 2, 10) without a BARRED one", x.brief(1, 2, 10), 1);
        foundAre(x, 2);
        x.remove(2);
        due("brief(4, 4, 10) without a REMOVED one", x.brief(4, 4, 10), 2);
        foundAre(x, 0, 3);
    }

    private static void recallLeavesAt() {
        sentence = "Promise 12: How many of the n nearest (exact) LOOKING with e finds. (at() stays.)";
        VectorGraphs x = islandLine();
        x.part(0, -100);
        due("recall(1, 1)", x.recall(1, 1), 0);
        foundAre(x);
        x.exact(6);
        foundAre(x, 0, 1, 2, 3, 4, 5);
        int[] found = {0, 1, 2, 3, 4, 5, 5};
        for (int n = 1; n <= 7; n++) {
            due("recall(n, n)", x.recall(n, n), found[n - 1]);
            due("recall(n, 60)", x.recall(n, 60), found[n - 1]);
        }
        foundAre(x, 0, 1, 2, 3, 4, 5);
        due("recall(61, 61)", x.recall(61, 61), BAD);
        foundAre(x, 0, 1, 2, 3, 4, 5);
    }

    private static void at() {
        sentence = "Promise 13: The number of the i-th that was found last. BAD: none such";
        VectorGraphs x = line(FLAT, 0, 10, 20);
        foundAre(x);
        x.exact(3);
        for (int i : new int[] {-1, 3, 99, 100, 101, LOW, HIGH}) {
            due("at(" + i + ")", x.at(i), BAD);
        }
        foundAre(x, 2, 1, 0);
        x.look(2, 2);
        foundAre(x, 2, 1);
        x.brief(1, 1, 100);
        foundAre(x, 2);
        x.exact(101);
        x.look(1, 61);
        x.brief(1, 1, 101);
        foundAre(x, 2);
    }

    private static void atAfterClean() {
        sentence = "Promise 13: (Numbers as they were then; gone with clean().)";
        VectorGraphs x = line(FLAT, 0, 10, 20);
        x.exact(2);
        x.remove(2);
        x.bar(1, true);
        x.part(0, -100);
        x.add();
        x.take(0);
        x.rule(0, 1);
        x.rule(1, 2);
        x.rule(2, 0);
        foundAre(x, 2, 1);
        x.clean();
        foundAre(x);
        x.exact(3);
        foundAre(x, 0, 2);
        x.clean();
        foundAre(x);
    }

    // ---- Promises 14 to 21 ----

    private static void promises14To21() {
        farAndBetween();
        steps();
        level();
        entry();
        neighbour();
        reached();
        count();
    }

    private static void farAndBetween() {
        sentence = "Promises 14, 15: BAD: none such";
        VectorGraphs x = line(FLAT, 10, 20, 40);
        x.part(0, 0);
        due("far(0)", x.far(0), 100);
        due("far(2)", x.far(2), 1600);
        due("between(0, 2)", x.between(0, 2), 900);
        due("between(2, 0)", x.between(2, 0), 900);
        due("between(2, 2)", x.between(2, 2), 0);
        for (int i : new int[] {-1, 3, 99, 100, 101, LOW, HIGH}) {
            due("far(" + i + ")", x.far(i), BAD);
            due("between(" + i + ", 0)", x.between(i, 0), BAD);
            due("between(2, " + i + ")", x.between(2, i), BAD);
            due("between(" + i + ", " + i + ")", x.between(i, i), BAD);
        }
        x.remove(0);
        x.bar(2, true);
        due("far(0), a REMOVED one", x.far(0), 100);
        due("between(0, 2), REMOVED and BARRED", x.between(0, 2), 900);
        x.clean();
        due("far(2) after clean()", x.far(2), BAD);
        due("between(0, 1) after clean()", x.between(0, 1), 400);
    }

    private static void steps() {
        sentence = "Promise 16: STEPS of the latest look(), recall() that was not BAD (0: none; without VECTORS 0, too)";
        VectorGraphs x = new VectorGraphs(1, FLAT);
        due("steps() of none", x.steps(), 0);
        x.look(1, 1);
        due("steps() without VECTORS", x.steps(), 0);
        addAll(x, 0, 10, 20);
        due("steps(): coming makes none", x.steps(), 0);
        x.look(0, 1);
        x.recall(1, 61);
        due("steps(): a BAD one makes none", x.steps(), 0);
        x.part(0, -5);
        x.look(1, 1);
        due("steps() of look(1, 1)", x.steps(), 2);
        x.recall(1, 2);
        due("steps() of recall(1, 2)", x.steps(), 3);
        x.look(1, 0);
        x.recall(0, 0);
        x.exact(3);
        x.brief(3, 3, 3);
        x.rule(0, 2);
        due("steps() stay", x.steps(), 3);
        x.recall(1, 1);
        due("steps() of recall(1, 1)", x.steps(), 2);
    }

    private static void level() {
        sentence = "Promise 17: BAD: none such";
        VectorGraphs x = line(ONE_THREE, 0, 10, 20, 30);
        int[] due = {1, 3, 0, 2};
        for (int i = 0; i < 4; i++) {
            due("level(" + i + ")", x.level(i), due[i]);
        }
        for (int i : new int[] {-1, 4, 99, 100, LOW, HIGH}) {
            due("level(" + i + ")", x.level(i), BAD);
        }
        x.remove(1);
        due("level(1), a REMOVED one", x.level(1), 3);
        x.clean();
        due("level(1): by the new number", x.level(1), 3);
        due("level(3) after clean()", x.level(3), BAD);
    }

    private static void entry() {
        sentence = "Promise 18: THE ENTRY. NONE";
        VectorGraphs x = new VectorGraphs(1, SECOND_HIGH);
        due("entry() without VECTORS", x.entry(), NONE);
        addAll(x, 0);
        due("entry()", x.entry(), 0);
        addAll(x, 1);
        due("entry()", x.entry(), 1);
        x.remove(0);
        x.remove(1);
        due("entry(): REMOVED ones stay", x.entry(), 1);
        x.clean();
        due("entry() when all went", x.entry(), NONE);
    }

    private static void neighbour() {
        sentence = "Promise 19: NEIGHBOUR k of VECTOR i in a level; - 1: how many. BAD: none such";
        VectorGraphs x = line(ONE_THREE, 0, 10, 20, 30);
        rowIs(x, 1, 1, 0, 3);
        for (int wild : new int[] {-2, LOW, HIGH, 100}) {
            due("neighbour(" + wild + ", 0, -1)", x.neighbour(wild, 0, -1), BAD);
            due("neighbour(1, " + wild + ", -1)", x.neighbour(1, wild, -1), BAD);
            due("neighbour(1, 1, " + wild + ")", x.neighbour(1, 1, wild), BAD);
        }
        due("neighbour(-1, 0, 0)", x.neighbour(-1, 0, 0), BAD);
        due("neighbour(4, 0, 0)", x.neighbour(4, 0, 0), BAD);
        due("neighbour(4, 0, -1)", x.neighbour(4, 0, -1), BAD);
        due("neighbour(3, 0, -1)", x.neighbour(3, 0, -1), 1);
        int[] levels = {1, 3, 0, 2};
        for (int i = 0; i < 4; i++) {
            due("neighbour(i, -1, 0)", x.neighbour(i, -1, 0), BAD);
            due("neighbour(i, LEVEL + 1, 0)", x.neighbour(i, levels[i] + 1, 0), BAD);
            due("neighbour(i, LEVEL + 1, -1)", x.neighbour(i, levels[i] + 1, -1), BAD);
        }
        rowIs(x, 1, 3);
    }

    private static void reached() {
        sentence = "Promise 20: itself, too. 0 without VECTORS";
        VectorGraphs x = new VectorGraphs(1, FLAT);
        due("reached() without VECTORS", x.reached(), 0);
        for (int i = 0; i < 3; i++) {
            addAll(x, i);
            due("reached()", x.reached(), i + 1);
        }
        x.bar(1, true);
        x.remove(2);
        due("reached(), BARRED and REMOVED ones, too", x.reached(), 3);
        x.clean();
        due("reached() after clean()", x.reached(), 2);
        x.remove(0);
        x.remove(1);
        x.clean();
        due("reached() when all went", x.reached(), 0);
        due("reached() from the island", plainLine(FLAT, 2, -100, 96, 97, 98, 99, 100).reached(), 6);
        due("reached() without the island", islandLine().reached(), 5);
    }

    private static void count() {
        sentence = "Promise 21: BAD: another number";
        VectorGraphs x = new VectorGraphs(6, FLAT);
        for (int i = 0; i < 4; i++) {
            x.add();
        }
        x.remove(0);
        x.bar(1, true);
        x.rule(0, 2);
        x.rule(1, 5);
        x.exact(100);
        int[] due = {4, 1, 1, 2, 6, 2, 5, 1, 2};
        for (int what = 0; what <= 8; what++) {
            due("count(" + what + ")", x.count(what), due[what]);
        }
        for (int what : new int[] {-1, 9, 10, 100, LOW, HIGH}) {
            due("count(" + what + ")", x.count(what), BAD);
        }
    }

    // ---- the empty object and the full one ----

    private static void emptyObject() {
        VectorGraphs cleaned = line(SECOND_HIGH, 0, 0);
        cleaned.remove(0);
        cleaned.remove(1);
        cleaned.clean();
        for (VectorGraphs x : new VectorGraphs[] {new VectorGraphs(1, SECOND_HIGH), cleaned}) {
            sentence = x == cleaned ? "All, when all went" : "All, of a new object";
            due("take(0)", x.take(0), BAD);
            due("remove(0)", x.remove(0), BAD);
            due("bar(0, true)", x.bar(0, true), BAD);
            due("clean()", x.clean(), 0);
            due("rule(0, 1)", x.rule(0, 1), 0);
            due("rule(0, 0)", x.rule(0, 0), 1);
            due("exact(1)", x.exact(1), 0);
            due("exact(100)", x.exact(100), 0);
            due("exact(101)", x.exact(101), BAD);
            due("look(1, 1)", x.look(1, 1), 0);
            due("brief(1, 1, 1)", x.brief(1, 1, 1), 0);
            due("brief(100, 100, 100)", x.brief(100, 100, 100), 0);
            due("brief(1, 1, 0)", x.brief(1, 1, 0), BAD);
            due("recall(1, 1)", x.recall(1, 1), 0);
            foundAre(x);
            due("far(0)", x.far(0), BAD);
            due("between(0, 0)", x.between(0, 0), BAD);
            due("steps()", x.steps(), 0);
            due("level(0)", x.level(0), BAD);
            due("entry()", x.entry(), NONE);
            due("neighbour(0, 0, -1)", x.neighbour(0, 0, -1), BAD);
            due("neighbour(0, 0, 0)", x.neighbour(0, 0, 0), BAD);
            due("reached()", x.reached(), 0);
            countsAre(x, 0, 0, 0, 0);
            due("part(0, 1)", x.part(0, 1), 0);
            due("add()", x.add(), 0);
            due("add()", x.add(), 1);
        }
    }

    private static void fullObject() {
        fullTells();
        fullFinds();
        fullLooks();
        fullIsBrief();
        fullIsCleaned();
    }

    private static void fullTells() {
        sentence = "All, of a full object: what it tells";
        VectorGraphs x = fullLine();
        countsAre(x, 100, 0, 0, 100);
        due("reached()", x.reached(), 100);
        due("far(0)", x.far(0), 99 * 99);
        due("far(99)", x.far(99), 0);
        due("far(100)", x.far(100), BAD);
        due("between(0, 99)", x.between(0, 99), 99 * 99);
        due("between(99, 100)", x.between(99, 100), BAD);
        due("level(100)", x.level(100), BAD);
        rowIs(x, 0, 0, 1);
        rowIs(x, 50, 0, 49, 51);
        rowIs(x, 99, 0, 98);
        due("neighbour(100, 0, -1)", x.neighbour(100, 0, -1), BAD);
        due("take(100)", x.take(100), BAD);
        due("remove(100)", x.remove(100), BAD);
        due("bar(100, true)", x.bar(100, true), BAD);
        due("bar(99, true)", x.bar(99, true), 0);
        due("remove(99)", x.remove(99), 1);
        countsAre(x, 100, 1, 1, 99);
        due("take(99)", x.take(99), 1);
        due("part(0, 0)", x.part(0, 0), 49);
        due("take(0)", x.take(0), 1);
        due("part(0, 0)", x.part(0, 0), -50);
    }

    private static void fullFinds() {
        sentence = "All, of a full object: exact()";
        VectorGraphs x = fullLine();
        due("exact(100)", x.exact(100), 100);
        foundAre(x, upTo(99, 0));
        due("exact(101)", x.exact(101), BAD);
        due("at(99)", x.at(99), 0);
        due("exact(99)", x.exact(99), 99);
        due("at(98)", x.at(98), 1);
        due("at(99)", x.at(99), BAD);
        x.bar(99, true);
        x.remove(0);
        due("exact(100)", x.exact(100), 98);
        due("at(0)", x.at(0), 98);
        due("at(97)", x.at(97), 1);
        due("at(98)", x.at(98), BAD);
    }

    private static void fullLooks() {
        sentence = "All, of a full object: look() and recall()";
        VectorGraphs x = fullLine();
        due("look(60, 60)", x.look(60, 60), 60);
        foundAre(x, upTo(99, 40));
        due("recall(60, 60)", x.recall(60, 60), 60);
        due("recall(1, 60)", x.recall(1, 60), 1);
        due("look(60, 61)", x.look(60, 61), BAD);
        due("look(61, 61)", x.look(61, 61), BAD);
        for (int i = 99; i >= 41; i--) {
            x.bar(i, true);
        }
        due("look(60, 60): FOUND has one FREE one", x.look(60, 60), 1);
        foundAre(x, 40);
        due("recall(60, 60)", x.recall(60, 60), 1);
        x.remove(40);
        due("look(60, 60): FOUND has no FREE one", x.look(60, 60), 0);
        foundAre(x);
        due("recall(1, 60)", x.recall(1, 60), 0);
    }

    private static void fullIsBrief() {
        sentence = "All, of a full object: brief()";
        VectorGraphs x = fullLine();
        due("brief(100, 100, 1)", x.brief(100, 100, 1), 100);
        foundAre(x, upTo(99, 0));
        due("brief(1, 1, 1)", x.brief(1, 1, 1), 1);
        foundAre(x, 0);
        due("brief(1, 99, 1)", x.brief(1, 99, 1), 1);
        foundAre(x, 98);
        due("brief(1, 100, 1)", x.brief(1, 100, 1), 1);
        foundAre(x, 99);
        due("brief(100, 100, 100)", x.brief(100, 100, 100), 100);
        due("at(99)", x.at(99), 0);
    }

    private static void fullIsCleaned() {
        sentence = "All, of a full object: clean()";
        VectorGraphs x = fullLine();
        for (int i = 0; i < 100; i += 2) {
            x.remove(i);
            x.bar(i + 1, i % 4 == 0);
        }
        countsAre(x, 100, 50, 25, 25);
        due("clean()", x.clean(), 50);
        countsAre(x, 50, 0, 25, 25);
        due("between(0, 49)", x.between(0, 49), 98 * 98);
        rowIs(x, 49, 0, 48);
        rowIs(x, 25, 0, 24, 26);
        due("take(50)", x.take(50), BAD);
        due("add()", x.add(), 50);
        for (int i = 0; i <= 50; i++) {
            due("remove(" + i + ")", x.remove(i), 1);
        }
        due("clean()", x.clean(), 51);
        countsAre(x, 0, 0, 0, 0);
        due("add()", x.add(), 0);
    }
}
