/**
 * Sentences of the document, in its order, that name no bound and that only the mixed runs held until now, and the
 * sentences that settle what a call leaves alone. The answers were worked out by hand. No object is asked more than
 * 512 times.
 */
public final class SentenceTests {
    private static final int BAD = -1;
    private static final int NONE = -2;

    // what LEVELS the numbers 0, 1 .. have with these seeds
    private static final int FLAT = 249513;      // 63 times 0
    private static final int SECOND_HIGH = 8;    // 0 1 0 0 0 0 1 0 4
    private static final int EIGHT_UP = 1607392; // 3 1 1 1 1 1 1 1
    private static final int TWO_UP = 480;       // 1 1 0 0 0 0 0 0 0 0 1
    private static final int THREE_UP = 245;     // 1 1 1, then 15 times 0

    private static int wrong = 0;
    private static String sentence = "";

    public static void main(String[] args) {
        sameRowsSameGraph();
        objectsStandAlone();
        removedOnesAnswerTillCleaned();
        metOnlyOnceInAGoing();
        comingDownWithOne();
        nextLevelFromTheFirstOfFound();
        lookingDownWithOne();
        cleanLeavesTheRest();
        ruleMakesTheGraphByTheMeasure();
        wrongLooksWithoutVectors();
        numbersAsTheyWereThen();
        goneWithClean();
        stepsOfTheLatest();
        System.out.println(wrong == 0 ? "all answers are as due" : wrong + " answers are not as due");
        if (wrong != 0) {
            System.exit(1);
        }
    }

    private static void due(String what, int got, int want) {
        if (got != want) {
            wrong++;
            System.out.println(sentence + ": " + what + " answered " + got + ", due is " + want);
        }
    }

    private static void foundAre(VectorGraphs x, int... want) {
        due("count(8)", x.count(8), want.length);
        for (int k = 0; k < want.length; k++) {
            due("at(" + k + ")", x.at(k), want[k]);
        }
        due("at(" + want.length + ")", x.at(want.length), BAD);
    }

    private static void rowIs(VectorGraphs x, int i, int level, int... want) {
        String row = "neighbour(" + i + ", " + level + ", ";
        due(row + "-1)", x.neighbour(i, level, -1), want.length);
        for (int k = 0; k < want.length; k++) {
            due(row + k + ")", x.neighbour(i, level, k), want[k]);
        }
    }

    private static void graphsAreTheSame(VectorGraphs x, VectorGraphs y) {
        due("entry()", x.entry(), y.entry());
        due("reached()", x.reached(), y.reached());
        due("count(0)", x.count(0), y.count(0));
        for (int i = 0; i < y.count(0); i++) {
            due("level(" + i + ")", x.level(i), y.level(i));
            for (int level = 0; level <= y.level(i); level++) {
                int[] row = new int[y.neighbour(i, level, -1)];
                for (int k = 0; k < row.length; k++) {
                    row[k] = y.neighbour(i, level, k);
                }
                rowIs(x, i, level, row);
            }
        }
    }

    private static void hold(VectorGraphs x, int... values) {
        for (int k = 0; k < values.length; k++) {
            x.part(k, values[k]);
        }
    }

    private static void addLine(VectorGraphs x, int... values) {
        for (int v : values) {
            hold(x, v);
            x.add();
        }
    }

    private static VectorGraphs line(int seed, int... values) {
        VectorGraphs x = new VectorGraphs(1, seed);
        addLine(x, values);
        return x;
    }

    private static VectorGraphs pairs(int seed, int... values) {
        VectorGraphs x = new VectorGraphs(2, seed);
        for (int k = 0; k + 1 < values.length; k += 2) {
            hold(x, values[k], values[k + 1]);
            x.add();
        }
        return x;
    }

    private static void sameRowsSameGraph() {
        sentence = "Terms: the same rows and seed make the same graph";
        int[] values = {4, -7, 9, 0, -3, -3, 8, 2, -9, 5, 1, 1, 6, -6, 0, 9, -5, 4};
        VectorGraphs quiet = pairs(SECOND_HIGH, values);
        VectorGraphs busy = new VectorGraphs(2, SECOND_HIGH);
        for (int i = 0; i < values.length / 2; i++) {
            busy.look(1, 3);
            busy.take(i / 2);
            busy.recall(2, 2);
            busy.exact(3);
            busy.brief(1, 2, 10);
            hold(busy, values[2 * i], values[2 * i + 1]);
            due("add()", busy.add(), i);
            busy.bar(i, i % 2 == 0);
            busy.remove(i / 3);
            busy.reached();
        }
        graphsAreTheSame(busy, quiet);
        sentence = "Terms: the same rows make the same graph ANEW, whatever the rules were between";
        busy.rule(0, 2);
        busy.rule(2, 0);
        busy.rule(1, 2);
        busy.rule(0, 0);
        busy.rule(1, 4);
        busy.rule(2, 1);
        graphsAreTheSame(busy, quiet);
    }

    private static void objectsStandAlone() {
        sentence = "Terms: the same rows and seed, with another object beside";
        VectorGraphs one = new VectorGraphs(1, FLAT);
        VectorGraphs other = new VectorGraphs(1, EIGHT_UP);
        addLine(one, 0);
        addLine(other, 50);
        other.rule(0, 2);
        other.rule(2, 0);
        addLine(one, 10);
        addLine(other, 60, 70);
        addLine(one, 20);
        other.remove(1);
        one.exact(2);
        other.look(3, 3);
        one.bar(0, true);
        foundAre(one, 2, 1);
        foundAre(other, 2, 0);
        rowIs(one, 2, 0, 1);
        rowIs(other, 2, 0, 1, 0);
        due("steps() of the one", one.steps(), 0);
        due("between(0, 1) of the one", one.between(0, 1), 100);
        due("between(0, 1) of the other", other.between(0, 1), 10);
        due("part(0, 20) of the one", one.part(0, 20), 20);
        due("part(0, 70) of the other", other.part(0, 70), 70);
    }

    private static void removedOnesAnswerTillCleaned() {
        sentence = "Terms: some REMOVED (these stay in the graph till it is cleaned)";
        VectorGraphs x = line(SECOND_HIGH, 0, 10, 20);
        x.remove(1);
        due("take(1)", x.take(1), 1);
        due("part(0, 13)", x.part(0, 13), 10);
        due("far(1)", x.far(1), 9);
        due("between(1, 2)", x.between(1, 2), 100);
        due("level(1)", x.level(1), 1);
        due("bar(1, true)", x.bar(1, true), 0);
        due("bar(1, false)", x.bar(1, false), 1);
        due("remove(1)", x.remove(1), 0);
        due("entry()", x.entry(), 1);
        rowIs(x, 1, 0, 0, 2);
        rowIs(x, 2, 0, 1);
        due("clean()", x.clean(), 1);
        due("far(1) is of the one that closed up", x.far(1), 49);
        due("far(2)", x.far(2), BAD);
        rowIs(x, 1, 0, 0);
    }

    private static void metOnlyOnceInAGoing() {
        sentence = "Terms: GOING: its NEIGHBOURS that were not met in this GOING; each vector that is met is a STEP";
        VectorGraphs x = new VectorGraphs(1, FLAT);
        x.rule(2, 0);
        addLine(x, 0, 10, 20, 30);
        // 0 and 1 both lead to 2 and 3, which do not come to FOUND
        hold(x, 12);
        x.look(1, 1);
        foundAre(x, 1);
        due("steps()", x.steps(), 4);
        x.look(2, 2);
        foundAre(x, 1, 2);
        due("steps() with e 2", x.steps(), 4);
    }

    private static void comingDownWithOne() {
        sentence = "Terms: as long as the level is above the new one's: GOING from AT with 1";
        // in level 1 the way from 0 to 2 leads over 1
        VectorGraphs x = pairs(THREE_UP, 0, 0, 10, -12, 20, 0);
        rowIs(x, 0, 1, 1);
        rowIs(x, 1, 1, 0, 2);
        rowIs(x, 2, 1, 1);
        for (int y = 1; y <= 12; y++) {
            hold(x, 0, y);
            x.add();
        }
        // 2 is the nearest, but 1 is farther than 0; in level 0 twelve beside 0 are nearer than 1, too
        hold(x, 11, 3);
        due("far(0)", x.far(0), 130);
        due("far(1)", x.far(1), 226);
        due("far(2)", x.far(2), 90);
        due("far(5)", x.far(5), 121);
        due("far(14)", x.far(14), 202);
        due("add()", x.add(), 15);
        rowIs(x, 15, 0, 5);
        rowIs(x, 2, 0, 1);
    }

    /** -100 .. -96 and 100 .. 96, PLAIN and narrow: in level 0 no way leads from the ones to the others. */
    private static VectorGraphs twoIslands() {
        VectorGraphs x = new VectorGraphs(1, TWO_UP);
        x.rule(1, 2);
        x.rule(2, 0);
        addLine(x, -100, 100, -99, -98, -97, -96, 99, 98, 97, 96);
        return x;
    }

    private static void nextLevelFromTheFirstOfFound() {
        sentence = "Terms: A VECTOR comes to the graph: AT is the first of FOUND";
        VectorGraphs x = twoIslands();
        due("entry()", x.entry(), 0);
        due("reached()", x.reached(), 5);
        rowIs(x, 0, 0, 2, 3, 4, 5);
        rowIs(x, 1, 0, 6, 7, 8, 9);
        rowIs(x, 0, 1, 1);
        rowIs(x, 1, 1, 0);
        addLine(x, 95);
        rowIs(x, 10, 1, 1, 0);
        rowIs(x, 0, 1, 10, 1);
        rowIs(x, 1, 1, 10, 0);
        rowIs(x, 10, 0, 9, 8, 7, 6);
        sentence = "Terms: LOOKING: as above, from THE ENTRY down with 1 to level 1, then in level 0";
        hold(x, 96);
        due("look(5, 10)", x.look(5, 10), 5);
        foundAre(x, 9, 8, 10, 7, 6);
        due("recall(6, 10)", x.recall(6, 10), 6);
        due("recall(7, 10): the seventh is on the other island", x.recall(7, 10), 6);
    }

    private static void lookingDownWithOne() {
        sentence = "Terms: LOOKING: from THE ENTRY down with 1 to level 1, then in level 0 with e";
        VectorGraphs x = line(EIGHT_UP, 0, 10, 20, 30, 40, 50, 60, 70);
        hold(x, -5);
        for (int e = 1; e <= 9; e++) {
            due("look(1, " + e + ")", x.look(1, e), 1);
            due("steps(): 1 in the levels 3 and 2, 2 in level 1", x.steps(), 4 + Math.min(8, e + 1));
            due("recall(1, " + e + ")", x.recall(1, e), 1);
            due("steps() of recall()", x.steps(), 4 + Math.min(8, e + 1));
        }
    }

    private static void cleanLeavesTheRest() {
        sentence = "Promise 7: REMOVED ones go, others close up; the graph is made ANEW (by the rules as they are)";
        VectorGraphs x = new VectorGraphs(2, FLAT);
        x.rule(0, 2);
        x.rule(1, 2);
        x.rule(2, 0);
        for (int i = 0; i < 7; i++) {
            hold(x, 10 * i, 0);
            x.add();
        }
        hold(x, 7, -8);
        x.remove(3);
        due("clean()", x.clean(), 1);
        int[] due = {6, 0, 0, 6, 2, 2, 2, 0, 0};
        for (int what = 0; what < due.length; what++) {
            due("count(" + what + ")", x.count(what), due[what]);
        }
        rowIs(x, 0, 0, 1, 2, 3, 4);
        rowIs(x, 5, 0, 4, 3, 2, 1);
        rowIs(x, 3, 0, 4, 2, 5, 1);
        due("far(1)", x.far(1), 3 + 8);
        due("part(0, 0)", x.part(0, 0), 7);
        due("part(1, 0)", x.part(1, 0), -8);
    }

    private static void ruleMakesTheGraphByTheMeasure() {
        sentence = "Promise 8: 0 MEASURE: the graph is made ANEW";
        VectorGraphs x = pairs(FLAT, 0, 0, 6, 6, 0, 9);
        // by squares 0-1 72, 0-2 81, 1-2 45; by products 20000, 20000, 19946; by differences 12, 9, 9
        rowsAre(x, new int[] {1}, new int[] {2, 0}, new int[] {1});
        x.rule(0, 2);
        rowsAre(x, new int[] {2, 1}, new int[] {2, 0}, new int[] {0, 1});
        x.rule(0, 1);
        rowsAre(x, new int[] {1}, new int[] {2, 0}, new int[] {1});
        sentence = "Promise 8: 0 MEASURE, PLAIN: the graph is made ANEW";
        x.rule(2, 0);
        rowsAre(x, new int[] {1, 2}, new int[] {2, 0}, new int[] {1, 0});
        x.rule(0, 2);
        rowsAre(x, new int[] {2, 1}, new int[] {2, 0}, new int[] {0, 1});
        x.rule(0, 0);
        rowsAre(x, new int[] {1, 2}, new int[] {2, 0}, new int[] {1, 0});
    }

    private static void rowsAre(VectorGraphs x, int[]... rows) {
        for (int i = 0; i < rows.length; i++) {
            rowIs(x, i, 0, rows[i]);
        }
    }

    private static void wrongLooksWithoutVectors() {
        sentence = "Promises 10 and 12: BAD: none such. (Without VECTORS 0.)";
        VectorGraphs x = new VectorGraphs(1, FLAT);
        int[][] refused = {{0, 0}, {0, 60}, {-1, 1}, {2, 1}, {1, 61}, {60, 61}, {61, 61}};
        for (int[] r : refused) {
            due("look(" + r[0] + ", " + r[1] + ")", x.look(r[0], r[1]), BAD);
            due("recall(" + r[0] + ", " + r[1] + ")", x.recall(r[0], r[1]), BAD);
        }
        int[][] taken = {{1, 1}, {1, 60}, {60, 60}};
        for (int[] t : taken) {
            due("look(" + t[0] + ", " + t[1] + ")", x.look(t[0], t[1]), 0);
            due("recall(" + t[0] + ", " + t[1] + ")", x.recall(t[0], t[1]), 0);
        }
    }

    private static void numbersAsTheyWereThen() {
        sentence = "Promise 13: Numbers as they were then";
        VectorGraphs x = line(FLAT, 0, 10, 20);
        for (int way = 0; way < 3; way++) {
            due("three are found", way == 0 ? x.exact(3) : way == 1 ? x.look(3, 3) : x.brief(3, 3, 100), 3);
            x.remove(2);
            x.bar(1, true);
            hold(x, -30);
            x.rule(0, 2);
            x.add();
            x.recall(1, 1);
            foundAre(x, 2, 1, 0);
            x = line(FLAT, 0, 10, 20);
        }
    }

    private static void goneWithClean() {
        sentence = "Promise 13: gone with clean()";
        for (int removed = 0; removed <= 2; removed++) {
            VectorGraphs x = line(FLAT, 0, 10);
            x.exact(2);
            for (int i = 0; i < removed; i++) {
                x.remove(i);
            }
            foundAre(x, 1, 0);
            due("clean()", x.clean(), removed);
            foundAre(x);
            due("exact(2)", x.exact(2), 2 - removed);
        }
    }

    private static void stepsOfTheLatest() {
        sentence = "Promise 16: STEPS of the latest look(), recall() that was not BAD";
        for (int recalled = 0; recalled <= 1; recalled++) {
            VectorGraphs x = line(FLAT, 0, 10, 20);
            due("two are found", recalled == 1 ? x.recall(2, 3) : x.look(2, 3), 2);
            due("steps()", x.steps(), 3);
            x.remove(0);
            x.clean();
            due("steps(): still of the latest, after clean()", x.steps(), 3);
            x.remove(0);
            x.remove(1);
            x.clean();
            due("entry()", x.entry(), NONE);
            due("steps(): still of the latest, when all went", x.steps(), 3);
            x.look(2, 1);
            x.recall(0, 1);
            due("steps(): a BAD one is not the latest", x.steps(), 3);
            due("none is found", recalled == 1 ? x.recall(1, 1) : x.look(1, 1), 0);
            due("steps(): without VECTORS 0, too", x.steps(), 0);
        }
    }
}
