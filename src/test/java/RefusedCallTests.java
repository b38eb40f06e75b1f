import java.util.ArrayList;
import java.util.List;

/**
 * A refused call answers BAD (or FULL), and leaves all other answers as they were; so does a call that only tells.
 * Two objects get the same calls, one of them one more, which is refused; then both are asked the same. As an object
 * is good for 512 calls, the questions come in portions, each to a new pair of objects.
 */
public final class RefusedCallTests {
    private static final int CALLS = 512;
    private static final int BAD = -1;
    private static final int FULL = -3;
    private static final int BAD_PART = -1000;
    private static final int LOW = Integer.MIN_VALUE;
    private static final int HIGH = Integer.MAX_VALUE;
    private static int wrong = 0;

    public static void main(String[] args) {
        for (State state : states()) {
            new Trial(state).run();
        }
        System.out.println(wrong == 0 ? "all answers are as due" : wrong + " answers are not as due");
        if (wrong != 0) {
            System.exit(1);
        }
    }

    private static void due(String what, int got, int want) {
        if (got != want) {
            wrong++;
            if (wrong <= 40) {
                System.out.println(what + " answered " + got + ", due is " + want);
            }
        }
    }

    private interface Call {
        int on(VectorGraphs x);
    }

    private record Named(String text, Call call) { }

    private record Refused(String text, int answer, Call call) { }

    /** The calls that lead to it. */
    private record State(String name, int parts, int seed, List<Call> way) {
        VectorGraphs make() {
            VectorGraphs x = new VectorGraphs(parts, seed);
            for (Call call : way) {
                call.on(x);
            }
            return x;
        }
    }

    private static List<State> states() {
        List<State> all = new ArrayList<>();
        all.add(new State("a new object", 3, 5, List.of()));
        all.add(new State("a new object with a PART", 8, -7, List.of(x -> x.part(7, -100))));
        all.add(new State("one vector, found", 1, 0, List.of(x -> x.part(0, 100), x -> x.add(), x -> x.look(1, 1))));
        all.add(allWent());
        all.add(mixed("mixed, CAREFUL", 3, 1929, 0, 4, 1));
        all.add(mixed("mixed, PLAIN", 2, Integer.MAX_VALUE, 2, 2, 0));
        all.add(mixed("mixed, by products", 8, 1607392, 1, 6, 0));
        all.add(full("full, CAREFUL", 249513, 1));
        all.add(full("full, PLAIN", 8, 0));
        return all;
    }

    private static State allWent() {
        List<Call> way = new ArrayList<>();
        come(way, 4, 2);
        way.add(x -> x.look(3, 4));
        for (int i = 0; i < 4; i++) {
            int number = i;
            way.add(x -> x.remove(number));
        }
        way.add(x -> x.clean());
        return new State("all went, STEPS left", 2, 8, way);
    }

    private static void come(List<Call> way, int many, int parts) {
        for (int i = 0; i < many; i++) {
            int k = i % parts;
            int v = i * 71 % 201 - 100;
            way.add(x -> x.part(k, v));
            way.add(x -> x.add());
        }
    }

    private static State mixed(String name, int parts, int seed, int measure, int width, int careful) {
        List<Call> way = new ArrayList<>();
        way.add(x -> x.rule(0, measure));
        way.add(x -> x.rule(1, width));
        way.add(x -> x.rule(2, careful));
        come(way, 24, parts);
        mark(way, 24);
        way.add(x -> x.part(0, -13));
        way.add(x -> x.exact(5));
        way.add(x -> x.recall(4, 7));
        return new State(name, parts, seed, way);
    }

    private static State full(String name, int seed, int careful) {
        List<Call> way = new ArrayList<>();
        way.add(x -> x.rule(2, careful));
        come(way, 100, 2);
        mark(way, 100);
        way.add(x -> x.part(1, 55));
        way.add(x -> x.look(7, 12));
        return new State(name, 2, seed, way);
    }

    private static void mark(List<Call> way, int many) {
        for (int i = 0; i < many; i += 9) {
            int number = i;
            way.add(x -> x.remove(number));
            way.add(x -> x.bar(number, number % 2 == 0));
            way.add(x -> x.bar((number + 4) % many, true));
        }
    }

    /** What a state answers, held against what it answers behind each refused call. */
    private static final class Trial {
        final State state;
        final int vectors;
        final int found;
        final List<List<Named>> portions = new ArrayList<>();

        Trial(State state) {
            this.state = state;
            VectorGraphs x = state.make();
            vectors = x.count(0);
            found = x.count(8);
            portions.add(marks());
            portions.add(finding());
            portions.add(changing());
            inPortions(telling());
        }

        void run() {
            List<Refused> calls = refused();
            calls.addAll(onlyTelling());
            for (List<Named> portion : portions) {
                int[] due = answers(state.make(), portion);
                for (Refused call : calls) {
                    VectorGraphs x = state.make();
                    String where = state.name + ": " + call.text;
                    due(where, call.call.on(x), call.answer);
                    hold(where, portion, answers(x, portion), due);
                }
            }
        }

        int[] answers(VectorGraphs x, List<Named> portion) {
            if (state.way.size() + 1 + portion.size() > CALLS) {
                throw new IllegalStateException("more than 512 calls: " + state.name);
            }
            int[] all = new int[portion.size()];
            for (int k = 0; k < all.length; k++) {
                all[k] = portion.get(k).call.on(x);
            }
            return all;
        }

        void hold(String where, List<Named> portion, int[] got, int[] want) {
            for (int k = 0; k < want.length; k++) {
                due(where + ", then " + portion.get(k).text, got[k], want[k]);
            }
        }

        void inPortions(List<Named> all) {
            int room = CALLS - 1 - state.way.size();
            for (int k = 0; k < all.size(); k += room) {
                portions.add(all.subList(k, Math.min(all.size(), k + room)));
            }
        }

        // ---- the questions ----

        /** Calls that change nothing, so that their order does not matter. */
        List<Named> telling() {
            List<Named> all = new ArrayList<>();
            all.add(new Named("entry()", x -> x.entry()));
            all.add(new Named("reached()", x -> x.reached()));
            all.add(new Named("steps()", x -> x.steps()));
            for (int k = 0; k <= 8; k++) {
                int what = k;
                all.add(new Named("count(" + k + ")", x -> x.count(what)));
            }
            for (int k = 0; k <= found; k++) {
                int place = k;
                all.add(new Named("at(" + k + ")", x -> x.at(place)));
            }
            for (int k = 0; k <= vectors; k++) {
                int i = k;
                int j = (k * 7 + 3) % (vectors + 1);
                all.add(new Named("far(" + i + ")", x -> x.far(i)));
                all.add(new Named("level(" + i + ")", x -> x.level(i)));
                all.add(new Named("between(" + i + ", " + j + ")", x -> x.between(i, j)));
            }
            rows(all);
            return all;
        }

        void rows(List<Named> all) {
            for (int number = 0; number < vectors; number++) {
                int i = number;
                for (int level = 0; level <= 4 && vectorLevel(i) >= level; level++) {
                    int in = level;
                    int many = many(i, in);
                    for (int place = -1; place <= many; place++) {
                        int k = place;
                        all.add(new Named("neighbour(" + i + ", " + in + ", " + k + ")", x -> x.neighbour(i, in, k)));
                    }
                }
            }
        }

        int vectorLevel(int i) {
            return state.make().level(i);
        }

        int many(int i, int level) {
            return state.make().neighbour(i, level, -1);
        }

        /** The one at hand, who is BARRED and who REMOVED can only be told by calls that change them. */
        List<Named> marks() {
            List<Named> all = new ArrayList<>();
            for (int k = 0; k < state.parts; k++) {
                int part = k;
                all.add(new Named("part(" + k + ", 1)", x -> x.part(part, 1)));
            }
            for (int i = 0; i <= vectors; i++) {
                int number = i;
                all.add(new Named("bar(" + i + ", true)", x -> x.bar(number, true)));
                all.add(new Named("remove(" + i + ")", x -> x.remove(number)));
            }
            all.add(new Named("clean()", x -> x.clean()));
            all.add(new Named("count(0)", x -> x.count(0)));
            return all;
        }

        List<Named> finding() {
            List<Named> all = new ArrayList<>();
            all.add(new Named("exact(100)", x -> x.exact(100)));
            found(all, 100);
            all.add(new Named("look(10, 20)", x -> x.look(10, 20)));
            all.add(new Named("steps()", x -> x.steps()));
            found(all, 10);
            all.add(new Named("recall(10, 12)", x -> x.recall(10, 12)));
            all.add(new Named("steps()", x -> x.steps()));
            all.add(new Named("brief(10, 20, 9)", x -> x.brief(10, 20, 9)));
            found(all, 10);
            return all;
        }

        List<Named> changing() {
            List<Named> all = new ArrayList<>();
            all.add(new Named("add()", x -> x.add()));
            all.add(new Named("take(0)", x -> x.take(0)));
            all.add(new Named("rule(1, 3)", x -> x.rule(1, 3)));
            all.add(new Named("clean()", x -> x.clean()));
            all.add(new Named("add()", x -> x.add()));
            all.add(new Named("entry()", x -> x.entry()));
            all.add(new Named("look(20, 30)", x -> x.look(20, 30)));
            all.add(new Named("steps()", x -> x.steps()));
            found(all, 20);
            all.add(new Named("rule(0, 2)", x -> x.rule(0, 2)));
            all.add(new Named("rule(2, 1)", x -> x.rule(2, 1)));
            all.add(new Named("reached()", x -> x.reached()));
            all.add(new Named("exact(60)", x -> x.exact(60)));
            found(all, 60);
            return all;
        }

        void found(List<Named> all, int most) {
            all.add(new Named("count(8)", x -> x.count(8)));
            for (int k = 0; k < most; k++) {
                int place = k;
                all.add(new Named("at(" + k + ")", x -> x.at(place)));
            }
        }

        // ---- the calls that are refused ----

        List<Refused> refused() {
            List<Refused> all = new ArrayList<>();
            parts(all);
            numbers(all);
            rules(all);
            searches(all);
            if (vectors == 100) {
                all.add(new Refused("add()", FULL, x -> x.add()));
            }
            for (int what : new int[] {-1, 9, LOW, HIGH}) {
                all.add(new Refused("count(" + what + ")", BAD, x -> x.count(what)));
            }
            for (int i : new int[] {-1, found, LOW, HIGH}) {
                all.add(new Refused("at(" + i + ")", BAD, x -> x.at(i)));
            }
            return all;
        }

        void parts(List<Refused> all) {
            int[][] given = {{-1, 0}, {state.parts, 0}, {0, -101}, {0, 101}, {state.parts - 1, -101},
                {state.parts - 1, 101}, {LOW, 1}, {HIGH, 1}, {0, LOW}, {0, HIGH}};
            for (int[] g : given) {
                all.add(new Refused("part(" + g[0] + ", " + g[1] + ")", BAD_PART, x -> x.part(g[0], g[1])));
            }
        }

        void numbers(List<Refused> all) {
            for (int i : new int[] {-1, vectors, LOW, HIGH}) {
                all.add(new Refused("take(" + i + ")", BAD, x -> x.take(i)));
                all.add(new Refused("remove(" + i + ")", BAD, x -> x.remove(i)));
                all.add(new Refused("bar(" + i + ", true)", BAD, x -> x.bar(i, true)));
                all.add(new Refused("bar(" + i + ", false)", BAD, x -> x.bar(i, false)));
                all.add(new Refused("far(" + i + ")", BAD, x -> x.far(i)));
                all.add(new Refused("between(" + i + ", 0)", BAD, x -> x.between(i, 0)));
                all.add(new Refused("between(0, " + i + ")", BAD, x -> x.between(0, i)));
                all.add(new Refused("level(" + i + ")", BAD, x -> x.level(i)));
                all.add(new Refused("neighbour(" + i + ", 0, -1)", BAD, x -> x.neighbour(i, 0, -1)));
                all.add(new Refused("neighbour(" + i + ", 0, 0)", BAD, x -> x.neighbour(i, 0, 0)));
            }
            for (int far : new int[] {-2, 13, LOW, HIGH}) {
                all.add(new Refused("neighbour(0, " + far + ", 0)", BAD, x -> x.neighbour(0, far, 0)));
                all.add(new Refused("neighbour(0, 0, " + far + ")", BAD, x -> x.neighbour(0, 0, far)));
            }
        }

        void rules(List<Refused> all) {
            int[][] given = {{0, -1}, {0, 3}, {1, 1}, {1, 7}, {2, -1}, {2, 2}, {-1, 0}, {-1, 2}, {3, 0}, {3, 2},
                {LOW, 1}, {HIGH, 2}, {0, LOW}, {1, HIGH}, {2, HIGH}};
            for (int[] g : given) {
                all.add(new Refused("rule(" + g[0] + ", " + g[1] + ")", BAD, x -> x.rule(g[0], g[1])));
            }
        }

        void searches(List<Refused> all) {
            for (int n : new int[] {-1, 0, 101, LOW, HIGH}) {
                all.add(new Refused("exact(" + n + ")", BAD, x -> x.exact(n)));
            }
            int[][] looks = {{-1, 5}, {0, 0}, {0, 1}, {1, 0}, {2, 1}, {60, 59}, {1, 61}, {60, 61}, {61, 60}, {61, 61},
                {LOW, 1}, {1, HIGH}, {HIGH, LOW}, {LOW, LOW}, {HIGH, HIGH}};
            for (int[] g : looks) {
                all.add(new Refused("look(" + g[0] + ", " + g[1] + ")", BAD, x -> x.look(g[0], g[1])));
                all.add(new Refused("recall(" + g[0] + ", " + g[1] + ")", BAD, x -> x.recall(g[0], g[1])));
            }
            int[][] briefs = {{0, 0, 1}, {0, 1, 1}, {-1, 1, 1}, {1, 0, 1}, {100, 99, 1}, {1, 101, 1}, {101, 101, 1},
                {101, 100, 1}, {1, 1, 0}, {1, 1, 101}, {100, 100, 0}, {100, 100, 101}, {LOW, 1, 1}, {1, LOW, 1},
                {1, 1, LOW}, {HIGH, HIGH, 1}, {1, HIGH, 1}, {1, 1, HIGH}};
            for (int[] g : briefs) {
                String text = "brief(" + g[0] + ", " + g[1] + ", " + g[2] + ")";
                all.add(new Refused(text, BAD, x -> x.brief(g[0], g[1], g[2])));
            }
        }

        /** Each with the answer that an object in this state gives. */
        List<Refused> onlyTelling() {
            List<Named> calls = List.of(
                new Named("at(0)", x -> x.at(0)), new Named("far(0)", x -> x.far(0)),
                new Named("between(0, 0)", x -> x.between(0, 0)), new Named("steps()", x -> x.steps()),
                new Named("level(0)", x -> x.level(0)), new Named("entry()", x -> x.entry()),
                new Named("neighbour(0, 0, -1)", x -> x.neighbour(0, 0, -1)),
                new Named("neighbour(0, 0, 0)", x -> x.neighbour(0, 0, 0)),
                new Named("reached()", x -> x.reached()), new Named("count(3)", x -> x.count(3)),
                new Named("count(8)", x -> x.count(8)));
            List<Refused> all = new ArrayList<>();
            for (Named call : calls) {
                all.add(new Refused(call.text, call.call.on(state.make()), call.call));
            }
            return all;
        }
    }
}
