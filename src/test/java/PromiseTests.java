/** Each promise of the document, with answers that were worked out by hand. */
public final class PromiseTests {
    /** With these seeds the levels of the numbers 0, 1 .. begin as told. */
    private static final int FLAT_SEED = 44;       // 0 0 0 0 0 0 0 0 0 0 0 0 0
    private static final int SECOND_HIGH_SEED = 8; // 0 1 0 0 0 0 1 0 4

    private static int wrong = 0;
    private static String promise = "";

    public static void main(String[] args) {
        newObject();
        part();
        add();
        take();
        remove();
        bar();
        clean();
        rule();
        exact();
        look();
        brief();
        recall();
        at();
        far();
        between();
        steps();
        level();
        entry();
        neighbour();
        choosingAnew();
        upperLevels();
        reached();
        count();
        wildArguments();
        System.out.println(wrong == 0 ? "all answers are as due" : wrong + " answers are not as due");
        if (wrong != 0) {
            System.exit(1);
        }
    }

    private static void due(String what, int got, int want) {
        if (got != want) {
            wrong++;
            System.out.println(promise + ": " + what + " answered " + got + ", due is " + want);
        }
    }

    private static void foundAre(VectorGraphs x, int... want) {
        due("count(8)", x.count(8), want.length);
        for (int k = 0; k < want.length; k++) {
            due("at(" + k + ")", x.at(k), want[k]);
        }
        due("at behind the last", x.at(want.length), -1);
    }

    private static void rowIs(VectorGraphs x, int i, int level, int... want) {
        due("how many neighbours of " + i + " in " + level, x.neighbour(i, level, -1), want.length);
        for (int k = 0; k < want.length; k++) {
            due("neighbour(" + i + ", " + level + ", " + k + ")", x.neighbour(i, level, k), want[k]);
        }
        due("neighbour of " + i + " behind the last", x.neighbour(i, level, want.length), -1);
    }

    private static VectorGraphs line(int seed, int... values) {
        VectorGraphs x = new VectorGraphs(1, seed);
        addAll(x, values);
        return x;
    }

    private static void addAll(VectorGraphs x, int... values) {
        for (int v : values) {
            x.part(0, v);
            x.add();
        }
    }

    private static VectorGraphs plainLine(int seed, int width, int... values) {
        VectorGraphs x = new VectorGraphs(1, seed);
        x.rule(2, 0);
        x.rule(1, width);
        addAll(x, values);
        return x;
    }

    private static void addPair(VectorGraphs x, int a, int b) {
        x.part(0, a);
        x.part(1, b);
        x.add();
    }

    private static void newObject() {
        promise = "1 a new object";
        int[] given = {Integer.MIN_VALUE, -1, 0, 1, 2, 7, 8, 9, Integer.MAX_VALUE};
        int[] taken = {1, 1, 1, 1, 2, 7, 8, 8, 8};
        for (int k = 0; k < given.length; k++) {
            due("PARTS of " + given[k], new VectorGraphs(given[k], 3).count(4), taken[k]);
        }
        VectorGraphs x = new VectorGraphs(3, 3);
        due("VECTORS", x.count(0), 0);
        due("MEASURE", x.count(5), 0);
        due("WIDTH", x.count(6), 4);
        due("CAREFUL", x.count(7), 1);
        due("found last", x.count(8), 0);
        due("steps", x.steps(), 0);
        due("entry", x.entry(), -2);
        for (int k = 0; k < 3; k++) {
            due("part " + k + " at first", x.part(k, 1), 0);
        }
    }

    private static void part() {
        promise = "2 part";
        VectorGraphs x = new VectorGraphs(2, 1);
        due("part(0, 100)", x.part(0, 100), 0);
        due("part(0, -100)", x.part(0, -100), 100);
        due("part(0, 101)", x.part(0, 101), -1000);
        due("part(0, -101)", x.part(0, -101), -1000);
        due("part(-1, 0)", x.part(-1, 0), -1000);
        due("part(2, 0)", x.part(2, 0), -1000);
        due("part(0, 5) after wrong ones", x.part(0, 5), -100);
        due("part(1, 6) is another one", x.part(1, 6), 0);
        due("part(0, 7)", x.part(0, 7), 5);
        due("part(1, 7)", x.part(1, 7), 6);
        VectorGraphs widest = new VectorGraphs(8, 1);
        due("part(7, 9)", widest.part(7, 9), 0);
        due("part(7, 0)", widest.part(7, 0), 9);
        due("part(8, 0)", widest.part(8, 0), -1000);
    }

    private static void add() {
        promise = "3 add";
        VectorGraphs x = new VectorGraphs(1, 9);
        x.part(0, 33);
        for (int i = 0; i < 100; i++) {
            due("add() " + i, x.add(), i);
        }
        due("add() when full", x.add(), -3);
        due("VECTORS when full", x.count(0), 100);
        due("it stays at hand", x.part(0, 34), 33);
        due("what came does not change", x.far(0), 1);
        x.remove(4);
        due("a removed one still takes a number", x.add(), -3);
        x.clean();
        due("add() after clean()", x.add(), 99);
        due("what came is the one at hand", x.far(99), 0);
        due("the others are as before", x.far(98), 1);
        due("full again", x.add(), -3);
    }

    private static void take() {
        promise = "4 take";
        VectorGraphs x = new VectorGraphs(2, 1);
        due("take(0) without vectors", x.take(0), -1);
        addPair(x, 10, 20);
        addPair(x, 30, 40);
        due("take(-1)", x.take(-1), -1);
        due("take(2)", x.take(2), -1);
        due("far(1): wrong takes change nothing", x.far(1), 0);
        due("take(0)", x.take(0), 1);
        due("part(0, 11)", x.part(0, 11), 10);
        due("part(1, 21)", x.part(1, 21), 20);
        due("far(0): the vector itself is as it was", x.far(0), 2);
        x.remove(1);
        due("take(1), a removed one", x.take(1), 1);
        due("far(1)", x.far(1), 0);
    }

    private static void remove() {
        promise = "5 remove";
        VectorGraphs x = line(FLAT_SEED, 0, 10, 20);
        due("remove(3)", x.remove(3), -1);
        due("remove(-1)", x.remove(-1), -1);
        due("remove(1)", x.remove(1), 1);
        due("remove(1) again", x.remove(1), 0);
        due("VECTORS: it stays", x.count(0), 3);
        rowIs(x, 1, 0, 0, 2);
        due("reached(): it stays in the graph", x.reached(), 3);
        x.exact(3);
        foundAre(x, 2, 0);
        x.look(3, 3);
        foundAre(x, 2, 0);
        x.brief(3, 3, 100);
        foundAre(x, 2, 0);
        due("the way goes through it", x.neighbour(2, 0, 0), 1);
    }

    private static void bar() {
        promise = "6 bar";
        VectorGraphs x = line(FLAT_SEED, 0, 10, 20);
        due("bar(3, true)", x.bar(3, true), -1);
        due("bar(-1, false)", x.bar(-1, false), -1);
        due("bar(1, false)", x.bar(1, false), 0);
        due("bar(1, true)", x.bar(1, true), 0);
        due("bar(1, true) again", x.bar(1, true), 1);
        x.exact(3);
        foundAre(x, 2, 0);
        x.look(3, 3);
        foundAre(x, 2, 0);
        x.brief(3, 3, 100);
        foundAre(x, 2, 0);
        due("recall(2, 3)", x.recall(2, 3), 2);
        due("bar(1, false)", x.bar(1, false), 1);
        due("bar(1, false) again", x.bar(1, false), 0);
        x.exact(3);
        foundAre(x, 2, 1, 0);
    }

    private static void clean() {
        promise = "7 clean";
        VectorGraphs x = line(SECOND_HIGH_SEED, 0, 10, 20, 30, 40);
        due("clean() with none removed", x.clean(), 0);
        x.bar(3, true);
        x.bar(2, true);
        x.remove(2);
        x.remove(0);
        x.exact(5);
        due("clean()", x.clean(), 2);
        foundAre(x);
        due("clean() again", x.clean(), 0);
        due("VECTORS", x.count(0), 3);
        due("REMOVED", x.count(1), 0);
        due("BARRED", x.count(2), 1);
        x.take(0);
        due("part(0, 0): 10 closed up", x.part(0, 0), 10);
        due("between(0, 1)", x.between(0, 1), 400);
        due("between(1, 2)", x.between(1, 2), 100);
        due("the barred one is 1 now", x.bar(1, true), 1);
        due("2 is not barred", x.bar(2, false), 0);
        due("level(0) goes by the new number", x.level(0), 0);
        due("entry() goes by the new numbers", x.entry(), 1);
        rowIs(x, 0, 0, 1);
        rowIs(x, 1, 0, 2, 0);
        rowIs(x, 2, 0, 1);
        x.add();
        due("a new one is free", x.count(3), 3);
        for (int i = 0; i < 4; i++) {
            x.remove(i);
        }
        due("clean() of all", x.clean(), 4);
        due("entry()", x.entry(), -2);
        due("reached()", x.reached(), 0);
        due("VECTORS", x.count(0), 0);
        due("look(1, 1)", x.look(1, 1), 0);
        due("part(0, 0): the one at hand stays", x.part(0, 0), 0);
        due("add()", x.add(), 0);
    }

    private static void rule() {
        promise = "8 rule";
        VectorGraphs x = line(FLAT_SEED, 0, 10, 20);
        due("rule(0, 2)", x.rule(0, 2), 0);
        due("rule(0, 1)", x.rule(0, 1), 2);
        due("rule(0, 0)", x.rule(0, 0), 1);
        due("rule(1, 2)", x.rule(1, 2), 4);
        due("rule(1, 6)", x.rule(1, 6), 2);
        due("rule(2, 0)", x.rule(2, 0), 1);
        rowIs(x, 2, 0, 1, 0);
        due("rule(2, 1)", x.rule(2, 1), 0);
        rowIs(x, 2, 0, 1);
        int[][] bad = {{0, -1}, {0, 3}, {1, 1}, {1, 7}, {2, -1}, {2, 2}, {3, 0}, {-1, 0}, {3, 2}};
        for (int[] b : bad) {
            due("rule(" + b[0] + ", " + b[1] + ")", x.rule(b[0], b[1]), -1);
        }
        due("MEASURE after wrong ones", x.count(5), 0);
        due("WIDTH after wrong ones", x.count(6), 6);
        due("CAREFUL after wrong ones", x.count(7), 1);
        x.exact(2);
        x.rule(1, 3);
        foundAre(x, 2, 1);
        x.remove(1);
        x.rule(2, 0);
        rowIs(x, 1, 0, 0, 2);
        VectorGraphs y = plainLine(FLAT_SEED, 6, 0, 1, 2, 3, 4, 5);
        rowIs(y, 5, 0, 4, 3, 2, 1, 0);
        y.rule(1, 2);
        rowIs(y, 5, 0, 4, 3, 2, 1);
    }

    private static void exact() {
        promise = "9 exact";
        VectorGraphs x = line(FLAT_SEED, 5, -5, 7, 5, 100);
        x.part(0, 0);
        due("exact(0)", x.exact(0), -1);
        due("exact(101)", x.exact(101), -1);
        due("exact(-1)", x.exact(-1), -1);
        due("exact(1)", x.exact(1), 1);
        foundAre(x, 0);
        due("exact(4)", x.exact(4), 4);
        foundAre(x, 0, 1, 3, 2);
        due("exact(0) again", x.exact(0), -1);
        foundAre(x, 0, 1, 3, 2);
        due("exact(100)", x.exact(100), 5);
        foundAre(x, 0, 1, 3, 2, 4);
        x.part(0, 6);
        x.rule(0, 1);
        x.exact(3);
        foundAre(x, 4, 2, 0);
        x.rule(0, 2);
        x.exact(3);
        foundAre(x, 0, 2, 3);
        due("exact(1) without vectors", new VectorGraphs(1, 1).exact(1), 0);
    }

    private static void look() {
        promise = "10 look";
        VectorGraphs x = new VectorGraphs(1, SECOND_HIGH_SEED);
        due("look(1, 1) without vectors", x.look(1, 1), 0);
        due("look(0, 1) without vectors", x.look(0, 1), -1);
        x = islandLine();
        x.part(0, 97);
        due("look(3, 5)", x.look(3, 5), 3);
        foundAre(x, 2, 1, 3);
        int[][] bad = {{0, 0}, {0, 5}, {-1, 5}, {3, 2}, {60, 61}, {1, 61}, {61, 61}, {5, -1}};
        for (int[] b : bad) {
            due("look(" + b[0] + ", " + b[1] + ")", x.look(b[0], b[1]), -1);
        }
        foundAre(x, 2, 1, 3);
        due("look(60, 60)", x.look(60, 60), 5);
        foundAre(x, 2, 1, 3, 4, 5);
        x.bar(2, true);
        due("look(1, 1): FOUND is the barred one alone", x.look(1, 1), 0);
        foundAre(x);
        due("look(1, 2)", x.look(1, 2), 1);
        foundAre(x, 1);
        x.part(0, -100);
        due("look(1, 60) does not come to the island", x.look(1, 60), 1);
        foundAre(x, 1);
        VectorGraphs gone = line(FLAT_SEED, 1, 2);
        gone.exact(2);
        gone.remove(0);
        gone.remove(1);
        gone.clean();
        due("look(1, 1) when all have gone", gone.look(1, 1), 0);
        foundAre(gone);
    }

    /** PLAIN and narrow: nobody has 0 as a neighbour any more, and THE ENTRY is 1. */
    private static VectorGraphs islandLine() {
        return plainLine(SECOND_HIGH_SEED, 2, -100, 96, 97, 98, 99, 100);
    }

    private static void brief() {
        promise = "11 brief";
        VectorGraphs x = line(FLAT_SEED, 9, 19, -9, 10);
        x.part(0, 5);
        due("brief(2, 2, 10)", x.brief(2, 2, 10), 2);
        foundAre(x, 0, 2);
        due("brief(2, 3, 10)", x.brief(2, 3, 10), 2);
        foundAre(x, 0, 1);
        due("brief(2, 4, 10)", x.brief(2, 4, 10), 2);
        foundAre(x, 0, 3);
        due("brief(2, 2, 1): all are 0, the first numbers count", x.brief(2, 2, 1), 2);
        foundAre(x, 0, 1);
        due("brief(2, 2, 100)", x.brief(2, 2, 100), 2);
        foundAre(x, 0, 3);
        int[][] bad = {{0, 5, 10}, {-1, 5, 10}, {3, 2, 10}, {1, 101, 10}, {101, 101, 10}, {1, 5, 0}, {1, 5, 101}, {1, 5, -1}, {1, 0, 10}};
        for (int[] b : bad) {
            due("brief(" + b[0] + ", " + b[1] + ", " + b[2] + ")", x.brief(b[0], b[1], b[2]), -1);
        }
        foundAre(x, 0, 3);
        due("brief(100, 100, 50)", x.brief(100, 100, 50), 4);
        foundAre(x, 0, 3, 1, 2);
        due("brief without vectors", new VectorGraphs(1, 1).brief(1, 1, 1), 0);
        VectorGraphs y = line(FLAT_SEED, 100, 10);
        y.part(0, 14);
        y.brief(1, 1, 10);
        foundAre(y, 1);
        VectorGraphs z = line(FLAT_SEED, 19, 10, 29);
        z.rule(0, 1);
        z.part(0, 10);
        z.brief(1, 1, 10);
        foundAre(z, 2);
        z.brief(2, 2, 10);
        foundAre(z, 2, 0);
        z.part(0, -10);
        z.brief(1, 2, 10);
        foundAre(z, 1);
        z.brief(1, 1, 10);
        foundAre(z, 0);
        x.rule(0, 2);
        x.part(0, 20);
        x.brief(2, 2, 10);
        foundAre(x, 1, 3);
    }

    private static void recall() {
        promise = "12 recall";
        due("recall(1, 1) without vectors", new VectorGraphs(1, 1).recall(1, 1), 0);
        VectorGraphs x = islandLine();
        x.part(0, -100);
        x.exact(2);
        foundAre(x, 0, 1);
        due("recall(1, 60)", x.recall(1, 60), 0);
        due("recall(2, 60)", x.recall(2, 60), 1);
        due("recall(6, 60)", x.recall(6, 60), 5);
        due("recall(60, 60)", x.recall(60, 60), 5);
        due("recall(2, 2)", x.recall(2, 2), 1);
        int[][] bad = {{0, 0}, {0, 5}, {-1, 5}, {3, 2}, {1, 61}, {61, 61}};
        for (int[] b : bad) {
            due("recall(" + b[0] + ", " + b[1] + ")", x.recall(b[0], b[1]), -1);
        }
        foundAre(x, 0, 1);
        x.bar(0, true);
        due("recall(1, 1): the barred island is not asked for", x.recall(1, 1), 1);
        x.remove(1);
        due("recall(1, 1): FOUND is the removed one alone", x.recall(1, 1), 0);
        due("recall(1, 2)", x.recall(1, 2), 1);
        foundAre(x, 0, 1);
    }

    private static void at() {
        promise = "13 at";
        VectorGraphs x = line(FLAT_SEED, 0, 10, 20);
        due("at(0) before anything was found", x.at(0), -1);
        x.exact(2);
        due("at(-1)", x.at(-1), -1);
        due("at(0)", x.at(0), 2);
        due("at(1)", x.at(1), 1);
        due("at(2)", x.at(2), -1);
        x.remove(2);
        x.bar(1, true);
        x.part(0, 0);
        x.add();
        x.take(1);
        foundAre(x, 2, 1);
        x.exact(1);
        due("at(0) of the newer", x.at(0), 0);
        due("at(1) is not of the older", x.at(1), -1);
        x.clean();
        due("at(0) after clean()", x.at(0), -1);
    }

    private static void far() {
        promise = "14 far";
        VectorGraphs x = new VectorGraphs(2, 1);
        due("far(0) without vectors", x.far(0), -1);
        addPair(x, 3, -4);
        addPair(x, 100, 100);
        x.part(0, -2);
        x.part(1, 5);
        due("far(0) by squares", x.far(0), 25 + 81);
        x.rule(0, 1);
        due("far(0) by products", x.far(0), 20000 - (-6 - 20));
        due("far(1) by products", x.far(1), 20000 - (-200 + 500));
        x.rule(0, 2);
        due("far(0) by differences", x.far(0), 5 + 9);
        due("far(-1)", x.far(-1), -1);
        due("far(2)", x.far(2), -1);
        VectorGraphs y = new VectorGraphs(8, 1);
        for (int k = 0; k < 8; k++) {
            y.part(k, 100);
        }
        y.add();
        for (int k = 0; k < 8; k++) {
            y.part(k, -100);
        }
        due("the farthest by squares", y.far(0), 320000);
        y.rule(0, 1);
        due("the farthest by products", y.far(0), 160000);
        y.rule(0, 2);
        due("the farthest by differences", y.far(0), 1600);
    }

    private static void between() {
        promise = "15 between";
        VectorGraphs x = new VectorGraphs(2, 1);
        addPair(x, 3, -4);
        addPair(x, -2, 5);
        x.part(0, 77);
        due("between(0, 1)", x.between(0, 1), 106);
        due("between(1, 0)", x.between(1, 0), 106);
        due("between(1, 1)", x.between(1, 1), 0);
        x.rule(0, 1);
        due("between(0, 1) by products", x.between(0, 1), 20026);
        due("between(1, 1) by products", x.between(1, 1), 20000 - 29);
        x.rule(0, 2);
        due("between(0, 1) by differences", x.between(0, 1), 14);
        due("between(0, 2)", x.between(0, 2), -1);
        due("between(2, 0)", x.between(2, 0), -1);
        due("between(-1, 0)", x.between(-1, 0), -1);
        due("between(0, -1)", x.between(0, -1), -1);
    }

    private static void steps() {
        promise = "16 steps";
        VectorGraphs x = new VectorGraphs(1, SECOND_HIGH_SEED);
        x.look(1, 1);
        due("steps() without vectors", x.steps(), 0);
        x = islandLine();
        due("steps() before a look", x.steps(), 0);
        x.exact(3);
        x.brief(1, 2, 50);
        due("steps(): exact() and brief() make none", x.steps(), 0);
        x.part(0, -100);
        x.look(1, 1);
        due("steps() of look(1, 1): 1 in level 1, 5 in level 0", x.steps(), 6);
        VectorGraphs y = line(FLAT_SEED, 0, 10, 20, 30);
        y.part(0, -5);
        y.look(1, 1);
        due("steps() of a look that ends early", y.steps(), 2);
        y.look(4, 0);
        y.exact(1);
        y.add();
        y.rule(1, 3);
        due("steps() stay", y.steps(), 2);
        y.recall(4, 4);
        due("steps() of recall(4, 4)", y.steps(), 5);
        y.recall(0, 4);
        due("steps() after a wrong recall", y.steps(), 5);
        for (int i = 0; i < 5; i++) {
            y.remove(i);
        }
        y.clean();
        due("steps() after clean()", y.steps(), 5);
        y.recall(1, 1);
        due("steps() of recall() without vectors", y.steps(), 0);
    }

    private static void level() {
        promise = "17 level";
        String[] due = {"401000010100001001000000101000", "001004010001100000001000000001"};
        int[] seeds = {0, 5};
        for (int s = 0; s < seeds.length; s++) {
            VectorGraphs x = new VectorGraphs(1, seeds[s]);
            due("level(0) without vectors", x.level(0), -1);
            for (int i = 0; i < 30; i++) {
                x.add();
            }
            for (int i = 0; i < 30; i++) {
                due("level(" + i + ")", x.level(i), due[s].charAt(i) - '0');
            }
            due("level(30)", x.level(30), -1);
            due("level(-1)", x.level(-1), -1);
        }
        int[] wide = {Integer.MIN_VALUE, Integer.MAX_VALUE, -12345, 987654321};
        for (int seed : wide) {
            VectorGraphs x = new VectorGraphs(1, seed);
            for (int i = 0; i < 100; i++) {
                x.add();
                due("level(" + i + ") with " + seed, x.level(i), levelByHand(seed, i));
            }
        }
    }

    private static int levelByHand(int seed, int i) {
        long word = 0xFFFFFFFFL;
        long h = ((seed ^ i) & word) * 0x9E3779B1L & word;
        h ^= h >> 16;
        h = h * 0x85EBCA6BL & word;
        h ^= h >> 13;
        return h == 0 ? 4 : Math.min(4, Long.numberOfTrailingZeros(h) / 2);
    }

    private static void entry() {
        promise = "18 entry";
        VectorGraphs x = new VectorGraphs(1, SECOND_HIGH_SEED);
        int[] due = {-2, 0, 1, 1, 1, 1, 1, 1, 1, 8, 8};
        for (int i = 0; i < due.length; i++) {
            due("entry() with " + i, x.entry(), due[i]);
            x.add();
        }
        x.remove(8);
        due("entry(): a removed one stays it", x.entry(), 8);
        x.clean();
        due("entry() after clean()", x.entry(), 8);
    }

    private static void neighbour() {
        promise = "19 neighbour";
        VectorGraphs x = line(FLAT_SEED, 0, 10, 20, 5);
        rowIs(x, 0, 0, 3, 1);
        rowIs(x, 1, 0, 3, 0, 2);
        rowIs(x, 2, 0, 1);
        rowIs(x, 3, 0, 0, 1);
        due("neighbour(0, 1, -1)", x.neighbour(0, 1, -1), -1);
        due("neighbour(0, -1, -1)", x.neighbour(0, -1, -1), -1);
        due("neighbour(0, 0, -2)", x.neighbour(0, 0, -2), -1);
        due("neighbour(4, 0, -1)", x.neighbour(4, 0, -1), -1);
        due("neighbour(-1, 0, 0)", x.neighbour(-1, 0, 0), -1);
        x.rule(2, 0);
        rowIs(x, 0, 0, 3, 1, 2);
        rowIs(x, 1, 0, 3, 0, 2);
        rowIs(x, 2, 0, 1, 3, 0);
        rowIs(x, 3, 0, 0, 1, 2);
        VectorGraphs alone = line(FLAT_SEED, 4);
        rowIs(alone, 0, 0);
        promise = "19 neighbour, CAREFUL takes only what is less far";
        VectorGraphs even = new VectorGraphs(2, FLAT_SEED);
        addPair(even, 2, 0);
        addPair(even, 1, 2);
        addPair(even, 0, 0);
        rowIs(even, 2, 0, 0);
        rowIs(even, 0, 0, 2, 1);
    }

    private static void choosingAnew() {
        promise = "19 neighbour, too many are chosen out of anew";
        VectorGraphs x = plainLine(FLAT_SEED, 2, 0, 1, 2, 3, 4, 5);
        rowIs(x, 0, 0, 1, 2, 3, 4);
        rowIs(x, 4, 0, 3, 5, 2, 1);
        rowIs(x, 5, 0, 4, 3, 2, 1);
        VectorGraphs many = plainLine(FLAT_SEED, 6, 0, 1, 2, 3, 4, 5, 6, 7, 8, 9, 10, 11, 12);
        rowIs(many, 12, 0, 11, 10, 9, 8, 7, 6, 5, 4, 3, 2, 1, 0);
        rowIs(many, 0, 0, 1, 2, 3, 4, 5, 6, 7, 8, 9, 10, 11, 12);
        // a star: four around the middle, careful; then one beside the first of them
        VectorGraphs star = new VectorGraphs(2, FLAT_SEED);
        star.rule(1, 2);
        addPair(star, 0, 0);
        addPair(star, 50, 0);
        addPair(star, 0, 51);
        addPair(star, -52, 0);
        addPair(star, 0, -53);
        rowIs(star, 0, 0, 1, 2, 3, 4);
        // nearer to the middle than to any of the four: all five are too many, and 5 hides only 1
        addPair(star, 20, 0);
        rowIs(star, 5, 0, 0, 1);
        rowIs(star, 0, 0, 5, 2, 3, 4);
        rowIs(star, 1, 0, 5, 0);
    }

    private static void upperLevels() {
        promise = "19 neighbour, levels above 0";
        // seed 0: levels 4 0 1 0 0 0 0 1 0 1; seed 10: 0 0 0 1 1
        VectorGraphs x = line(10, 0, 10, 20, 30, 40);
        due("entry()", x.entry(), 3);
        rowIs(x, 3, 1, 4);
        rowIs(x, 4, 1, 3);
        rowIs(x, 3, 0, 2, 4);
        due("neighbour(3, 2, -1)", x.neighbour(3, 2, -1), -1);
        due("neighbour(2, 1, -1)", x.neighbour(2, 1, -1), -1);
        VectorGraphs y = plainLine(0, 2, 0, 1, 2, 3, 4, 5, 6, 7, 8, 9);
        due("entry()", y.entry(), 0);
        rowIs(y, 0, 1, 2, 7);
        rowIs(y, 2, 1, 0, 7);
        rowIs(y, 7, 1, 9, 2);
        rowIs(y, 9, 1, 7, 2);
        rowIs(y, 0, 4);
        due("neighbour(0, 5, -1)", y.neighbour(0, 5, -1), -1);
        y.part(0, 8);
        y.look(2, 2);
        foundAre(y, 8, 7);
    }

    private static void reached() {
        promise = "20 reached";
        due("reached() without vectors", new VectorGraphs(1, 1).reached(), 0);
        due("reached() of one", line(FLAT_SEED, 3).reached(), 1);
        due("reached() of a line", line(FLAT_SEED, 0, 10, 20, 30).reached(), 4);
        VectorGraphs x = islandLine();
        due("reached() without the island", x.reached(), 5);
        rowIs(x, 0, 0, 1, 2, 3, 4);
        x.remove(1);
        x.bar(2, true);
        due("reached(): removed and barred ones, too", x.reached(), 5);
        due("reached() from the island itself", plainLine(FLAT_SEED, 2, -100, 96, 97, 98, 99, 100).reached(), 6);
    }

    private static void count() {
        promise = "21 count";
        VectorGraphs x = new VectorGraphs(2, FLAT_SEED);
        for (int i = 0; i < 5; i++) {
            addPair(x, i, i);
        }
        x.remove(0);
        x.remove(1);
        x.bar(1, true);
        x.bar(2, true);
        x.bar(3, true);
        x.rule(0, 2);
        x.rule(1, 5);
        x.rule(2, 0);
        x.exact(1);
        int[] due = {5, 2, 3, 1, 2, 2, 5, 0, 1};
        for (int what = 0; what < due.length; what++) {
            due("count(" + what + ")", x.count(what), due[what]);
        }
        due("count(-1)", x.count(-1), -1);
        due("count(9)", x.count(9), -1);
        x.bar(3, false);
        due("count(2)", x.count(2), 2);
        due("count(3)", x.count(3), 2);
        x.clean();
        due("count(0)", x.count(0), 3);
        due("count(1)", x.count(1), 0);
        due("count(2)", x.count(2), 1);
        due("count(8)", x.count(8), 0);
    }

    /** No call may throw, whatever it is given. */
    private static void wildArguments() {
        promise = "all, wild arguments";
        int[] wild = {Integer.MIN_VALUE, Integer.MIN_VALUE + 1, -1000, -2, 100, 101, 1 << 20, Integer.MAX_VALUE - 1, Integer.MAX_VALUE};
        for (int a : wild) {
            for (VectorGraphs x : new VectorGraphs[] {new VectorGraphs(2, 7), islandLine()}) {
                due("take", x.take(a), -1);
                due("remove", x.remove(a), -1);
                due("bar", x.bar(a, true), -1);
                due("at", x.at(a), -1);
                due("far", x.far(a), -1);
                due("level", x.level(a), -1);
                due("count", x.count(a), -1);
                for (int b : wild) {
                    due("part", x.part(a, b), -1000);
                    due("rule", x.rule(a, b), -1);
                    due("look", x.look(a, b), -1);
                    due("recall", x.recall(a, b), -1);
                    due("between", x.between(a, b), -1);
                    due("neighbour", x.neighbour(a, b, a), -1);
                    due("neighbour", x.neighbour(0, a, b), -1);
                    due("neighbour", x.neighbour(0, 0, b), -1);
                    due("brief", x.brief(1, a, b), a == 100 && b == 100 ? Math.min(1, x.count(3)) : -1);
                }
            }
        }
    }
}
