import java.util.ArrayList;
import java.util.Arrays;
import java.util.Comparator;
import java.util.HashSet;
import java.util.List;
import java.util.Random;
import java.util.Set;
import java.util.stream.Collectors;

/** Long mixed runs of calls, each answer held against a slow model that follows the document's sentences. */
public final class ModelRuns {
    private static final int RUNS = 1500;
    /** The document tells nothing about an object after its 512th call. */
    private static final int CALLS = 512;
    private static final int KEPT_FOR_THE_ROWS = 150;
    private static int wrong = 0;

    public static void main(String[] args) {
        for (int run = 0; run < RUNS; run++) {
            new Run(run).play();
        }
        System.out.println(wrong == 0 ? "all answers are as due" : wrong + " answers are not as due");
        if (wrong != 0) {
            System.exit(1);
        }
    }

    private static void due(int run, String call, int got, int want) {
        if (got != want) {
            wrong++;
            if (wrong <= 40) {
                System.out.println("run " + run + ": " + call + " answered " + got + ", due is " + want);
            }
        }
    }

    /** One object, one model, and the same calls to both. */
    private static final class Run {
        final int run;
        final Random random;
        final int reach;
        /** Few vectors, which often all go: what is due without vectors comes up again and again. */
        final boolean sparse;
        final VectorGraphs tried;
        final Model model;
        int left = CALLS;

        Run(int run) {
            this.run = run;
            random = new Random(7919L * run + 1);
            int parts = random.nextInt(12) - 1;
            int seed = run % 3 == 0 ? random.nextInt() : random.nextInt(220) - 60;
            // small reaches make many vectors equally far
            reach = new int[] {1, 3, 10, 40, 100}[random.nextInt(5)];
            sparse = run % 5 == 0;
            tried = new VectorGraphs(parts, seed);
            model = new Model(parts, seed);
        }

        int from(int low, int high) {
            return low + random.nextInt(high - low + 1);
        }

        int number() {
            return random.nextInt(12) == 0 ? from(-2, 101) : from(0, Math.max(0, model.rows.size() - 1));
        }

        void play() {
            int wanted = new int[] {3, 15, 40, 100}[random.nextInt(4)];
            fill(sparse ? random.nextInt(4) : wanted);
            for (int k = 0; k < CALLS && left > KEPT_FOR_THE_ROWS; k++) {
                if (sparse && random.nextInt(3) == 0) {
                    sparseCall();
                } else {
                    oneCall();
                }
            }
            rows();
        }

        void fill(int wanted) {
            // a full object must have calls left to be asked
            int most = wanted == 100 ? 1 : 4;
            for (int i = 0; i < wanted; i++) {
                int changes = Math.min(model.parts, from(1, most));
                for (int k = 0; k < changes; k++) {
                    part(random.nextInt(model.parts), from(-reach, reach));
                }
                add();
            }
        }

        void sparseCall() {
            switch (random.nextInt(5)) {
                case 0: removeAll(); clean(); break;
                case 1: clean(); break;
                case 2: look(); break;
                case 3: recall(); break;
                default: exact();
            }
            call("steps()", tried.steps(), model.steps);
            call("reached()", tried.reached(), model.reached());
            call("count(8)", tried.count(8), model.count(8));
        }

        void removeAll() {
            for (int i = 0; i < model.rows.size(); i++) {
                call("remove(" + i + ")", tried.remove(i), model.remove(i));
            }
        }

        void oneCall() {
            switch (random.nextInt(26)) {
                case 0: case 1: part(from(-1, model.parts), from(-reach - 1, reach + 1)); break;
                case 2: part(random.nextInt(model.parts), from(-102, 102)); break;
                case 3: case 4: add(); break;
                case 5: take(); break;
                case 6: remove(); break;
                case 7: bar(); break;
                case 8: if (random.nextInt(4) == 0) { clean(); } break;
                case 9: rule(); break;
                case 10: case 11: exact(); break;
                case 12: case 13: case 14: look(); break;
                case 15: case 16: brief(); break;
                case 17: case 18: recall(); break;
                case 19: { int i = from(-1, 62); call("at(" + i + ")", tried.at(i), model.at(i)); break; }
                case 20: { int i = number(); call("far(" + i + ")", tried.far(i), model.far(i)); break; }
                case 21: between(); break;
                case 22: { int i = number(); call("level(" + i + ")", tried.level(i), model.level(i)); break; }
                case 23: neighbour(number(), from(-1, 5), from(-2, 13)); break;
                case 24: neighbour(number(), 0, from(-1, 6)); break;
                default: { int w = from(-1, 9); call("count(" + w + ")", tried.count(w), model.count(w)); }
            }
            call("entry()", tried.entry(), model.entry());
            if (random.nextInt(4) == 0) {
                call("reached()", tried.reached(), model.reached());
                call("steps()", tried.steps(), model.steps);
            }
        }

        void call(String text, int got, int want) {
            left--;
            if (left < 0) {
                throw new IllegalStateException("more than 512 calls in run " + run);
            }
            due(run, text, got, want);
        }

        void part(int k, int v) {
            call("part(" + k + ", " + v + ")", tried.part(k, v), model.part(k, v));
        }

        void add() {
            call("add()", tried.add(), model.add());
        }

        void take() {
            int i = number();
            call("take(" + i + ")", tried.take(i), model.take(i));
        }

        void remove() {
            int i = number();
            call("remove(" + i + ")", tried.remove(i), model.remove(i));
        }

        void bar() {
            int i = number();
            boolean on = random.nextInt(3) != 0;
            call("bar(" + i + ", " + on + ")", tried.bar(i, on), model.bar(i, on));
        }

        void clean() {
            call("clean()", tried.clean(), model.clean());
        }

        void rule() {
            int what = from(0, 2);
            int v = random.nextInt(4) == 0 ? from(-1, 7) : what == 1 ? from(2, 6) : from(0, 2 - what / 2);
            if (random.nextInt(10) == 0) {
                what = from(-1, 3);
            }
            call("rule(" + what + ", " + v + ")", tried.rule(what, v), model.rule(what, v));
        }

        void exact() {
            int n = random.nextInt(4) == 0 ? from(-1, 102) : from(1, 12);
            call("exact(" + n + ")", tried.exact(n), model.exact(n));
            found();
        }

        void look() {
            int n = random.nextInt(4) == 0 ? from(-1, 62) : from(1, 8);
            int e = random.nextInt(4) == 0 ? from(-1, 62) : n + from(0, 12);
            call("look(" + n + ", " + e + ")", tried.look(n, e), model.look(n, e));
            call("steps()", tried.steps(), model.steps);
            found();
        }

        void brief() {
            int n = random.nextInt(4) == 0 ? from(-1, 102) : from(1, 6);
            int m = random.nextInt(4) == 0 ? from(-1, 102) : n + from(0, 8);
            int q = random.nextInt(4) == 0 ? from(-1, 102) : from(1, 30);
            call("brief(" + n + ", " + m + ", " + q + ")", tried.brief(n, m, q), model.brief(n, m, q));
            found();
        }

        void recall() {
            int n = random.nextInt(4) == 0 ? from(-1, 62) : from(1, 8);
            int e = random.nextInt(4) == 0 ? from(-1, 62) : n + from(0, 4);
            call("recall(" + n + ", " + e + ")", tried.recall(n, e), model.recall(n, e));
            call("steps()", tried.steps(), model.steps);
        }

        void between() {
            int i = number();
            int j = number();
            call("between(" + i + ", " + j + ")", tried.between(i, j), model.between(i, j));
        }

        void neighbour(int i, int level, int k) {
            call("neighbour(" + i + ", " + level + ", " + k + ")", tried.neighbour(i, level, k), model.neighbour(i, level, k));
        }

        void found() {
            int many = model.last.size();
            call("count(8)", tried.count(8), many);
            boolean all = many <= 8 || random.nextInt(8) == 0;
            for (int k = 0; k <= many; k++) {
                if (all || k < 4 || k >= many - 1) {
                    call("at(" + k + ")", tried.at(k), model.at(k));
                }
            }
        }

        /** As many rows as there are calls left for, from a number on. */
        void rows() {
            int vectors = model.rows.size();
            int first = random.nextInt(vectors + 1);
            for (int turn = 0; turn <= vectors; turn++) {
                int i = (first + turn) % (vectors + 1);
                for (int level = 0; level <= model.level(i) + 1; level++) {
                    for (int k = -1; k <= model.neighbour(i, level, -1) && left > 0; k++) {
                        neighbour(i, level, k);
                    }
                }
            }
        }
    }

    private static final class Model {
        final int parts;
        final int seed;
        int[] hand;
        final List<int[]> rows = new ArrayList<>();
        final List<Boolean> removed = new ArrayList<>();
        final List<Boolean> barred = new ArrayList<>();
        final List<List<List<Integer>>> graph = new ArrayList<>();
        int measure = 0;
        int width = 4;
        int careful = 1;
        int entry = -2;
        int steps = 0;
        int going = 0;
        List<Integer> last = new ArrayList<>();

        Model(int parts, int seed) {
            this.parts = parts < 1 ? 1 : parts > 8 ? 8 : parts;
            this.seed = seed;
            hand = new int[this.parts];
        }

        boolean has(int i) {
            return 0 <= i && i < rows.size();
        }

        int part(int k, int v) {
            if (k < 0 || k >= parts || Math.abs(v) > 100) {
                return -1000;
            }
            int was = hand[k];
            hand = hand.clone();
            hand[k] = v;
            return was;
        }

        int add() {
            if (rows.size() == 100) {
                return -3;
            }
            rows.add(hand);
            removed.add(false);
            barred.add(false);
            come(rows.size() - 1);
            return rows.size() - 1;
        }

        int take(int i) {
            if (!has(i)) {
                return -1;
            }
            hand = rows.get(i);
            return 1;
        }

        int remove(int i) {
            return !has(i) ? -1 : removed.set(i, true) ? 0 : 1;
        }

        int bar(int i, boolean on) {
            return !has(i) ? -1 : barred.set(i, on) ? 1 : 0;
        }

        int clean() {
            int gone = 0;
            for (int i = rows.size() - 1; i >= 0; i--) {
                if (removed.get(i)) {
                    rows.remove(i);
                    removed.remove(i);
                    barred.remove(i);
                    gone++;
                }
            }
            last = new ArrayList<>();
            anew();
            return gone;
        }

        int rule(int what, int v) {
            int was;
            if (what == 0 && List.of(0, 1, 2).contains(v)) {
                was = measure;
                measure = v;
            } else if (what == 1 && List.of(2, 3, 4, 5, 6).contains(v)) {
                was = width;
                width = v;
            } else if (what == 2 && List.of(0, 1).contains(v)) {
                was = careful;
                careful = v;
            } else {
                return -1;
            }
            anew();
            return was;
        }

        void anew() {
            graph.clear();
            entry = -2;
            for (int i = 0; i < rows.size(); i++) {
                come(i);
            }
        }

        int far(int[] a, int[] b) {
            int squares = 0;
            int products = 0;
            int gaps = 0;
            for (int k = 0; k < parts; k++) {
                squares += (a[k] - b[k]) * (a[k] - b[k]);
                products += a[k] * b[k];
                gaps += Math.abs(a[k] - b[k]);
            }
            return measure == 0 ? squares : measure == 1 ? 10000 * parts - products : gaps;
        }

        Comparator<Integer> before(int[] q) {
            return Comparator.<Integer>comparingInt(i -> far(q, rows.get(i))).thenComparingInt(i -> i);
        }

        int levelOf(int i) {
            long all = 0xFFFFFFFFL;
            long h = (((seed ^ i) & all) * 0x9E3779B1L) & all;
            h = h ^ (h >> 16);
            h = (h * 0x85EBCA6BL) & all;
            h = h ^ (h >> 13);
            int zeros = 0;
            while (zeros < 32 && (h >> zeros & 1) == 0) {
                zeros++;
            }
            return Math.min(4, zeros / 2);
        }

        List<Integer> going(int level, int start, int e, int[] q) {
            Comparator<Integer> order = before(q);
            List<Integer> found = new ArrayList<>(List.of(start));
            List<Integer> open = new ArrayList<>(List.of(start));
            Set<Integer> met = new HashSet<>(List.of(start));
            while (!open.isEmpty()) {
                open.sort(order);
                int one = open.remove(0);
                if (found.size() == e && order.compare(found.get(e - 1), one) < 0) {
                    break;
                }
                for (int other : graph.get(one).get(level)) {
                    if (!met.add(other)) {
                        continue;
                    }
                    if (found.size() < e || order.compare(other, found.get(found.size() - 1)) < 0) {
                        found.add(other);
                        open.add(other);
                        found.sort(order);
                        if (found.size() > e) {
                            found.remove(found.size() - 1);
                        }
                    }
                }
            }
            going += met.size();
            return found;
        }

        List<Integer> choosing(int w, int owner, List<Integer> others) {
            if (careful == 0) {
                return new ArrayList<>(others.subList(0, Math.min(w, others.size())));
            }
            List<Integer> taken = new ArrayList<>();
            for (int one : others) {
                int[] row = rows.get(one);
                int own = far(row, rows.get(owner));
                if (taken.size() < w && taken.stream().allMatch(t -> own < far(row, rows.get(t)))) {
                    taken.add(one);
                }
            }
            return taken;
        }

        void come(int newOne) {
            int own = levelOf(newOne);
            graph.add(new ArrayList<>());
            for (int level = 0; level <= own; level++) {
                graph.get(newOne).add(new ArrayList<>());
            }
            if (newOne == 0) {
                entry = 0;
                return;
            }
            int[] q = rows.get(newOne);
            int at = entry;
            for (int level = levelOf(entry); level > own; level--) {
                at = going(level, at, 1, q).get(0);
            }
            for (int level = Math.min(own, levelOf(entry)); level >= 0; level--) {
                int w = level == 0 ? 2 * width : width;
                List<Integer> found = going(level, at, 12, q);
                List<Integer> chosen = choosing(w, newOne, found);
                graph.get(newOne).set(level, chosen);
                for (int other : chosen) {
                    List<Integer> row = graph.get(other).get(level);
                    row.add(newOne);
                    row.sort(before(rows.get(other)));
                    if (row.size() > w) {
                        graph.get(other).set(level, choosing(w, other, row));
                    }
                }
                at = found.get(0);
            }
            if (own > levelOf(entry)) {
                entry = newOne;
            }
        }

        boolean free(int i) {
            return !removed.get(i) && !barred.get(i);
        }

        List<Integer> nearest(int n) {
            return allFree().stream().sorted(before(hand)).limit(n).collect(Collectors.toList());
        }

        List<Integer> allFree() {
            List<Integer> all = new ArrayList<>();
            for (int i = 0; i < rows.size(); i++) {
                if (free(i)) {
                    all.add(i);
                }
            }
            return all;
        }

        List<Integer> looking(int n, int e) {
            going = 0;
            List<Integer> found = new ArrayList<>();
            if (!rows.isEmpty()) {
                int at = entry;
                for (int level = levelOf(entry); level >= 1; level--) {
                    at = going(level, at, 1, hand).get(0);
                }
                found = going(0, at, e, hand);
            }
            steps = going;
            return found.stream().filter(this::free).limit(n).collect(Collectors.toList());
        }

        int exact(int n) {
            if (n < 1 || n > 100) {
                return -1;
            }
            last = nearest(n);
            return last.size();
        }

        boolean badLook(int n, int e) {
            return n < 1 || n > 60 || e < n || e > 60;
        }

        int look(int n, int e) {
            if (badLook(n, e)) {
                return -1;
            }
            last = looking(n, e);
            return last.size();
        }

        int recall(int n, int e) {
            if (badLook(n, e)) {
                return -1;
            }
            Set<Integer> both = new HashSet<>(nearest(n));
            both.retainAll(looking(n, e));
            return both.size();
        }

        int[] shortForm(int[] row, int q) {
            return Arrays.stream(row).map(v -> Integer.signum(v) * (Math.abs(v) * q / 100)).toArray();
        }

        int brief(int n, int m, int q) {
            if (n < 1 || n > 100 || m < n || m > 100 || q < 1 || q > 100) {
                return -1;
            }
            int[] own = shortForm(hand, q);
            last = allFree().stream()
                .sorted(Comparator.<Integer>comparingInt(i -> far(own, shortForm(rows.get(i), q))).thenComparingInt(i -> i))
                .limit(m).sorted(before(hand)).limit(n).collect(Collectors.toList());
            return last.size();
        }

        int at(int i) {
            return i < 0 || i >= last.size() ? -1 : last.get(i);
        }

        int far(int i) {
            return has(i) ? far(hand, rows.get(i)) : -1;
        }

        int between(int i, int j) {
            return has(i) && has(j) ? far(rows.get(i), rows.get(j)) : -1;
        }

        int level(int i) {
            return has(i) ? levelOf(i) : -1;
        }

        int entry() {
            return entry;
        }

        int neighbour(int i, int level, int k) {
            if (!has(i) || level < 0 || level > levelOf(i)) {
                return -1;
            }
            List<Integer> row = graph.get(i).get(level);
            return k == -1 ? row.size() : k < 0 || k >= row.size() ? -1 : row.get(k);
        }

        int reached() {
            if (rows.isEmpty()) {
                return 0;
            }
            Set<Integer> come = new HashSet<>(List.of(entry));
            for (int before = 0; before < come.size();) {
                before = come.size();
                for (int i : new ArrayList<>(come)) {
                    come.addAll(graph.get(i).get(0));
                }
            }
            return come.size();
        }

        int count(int what) {
            int removedOnes = (int) removed.stream().filter(b -> b).count();
            int barredOnes = (int) barred.stream().filter(b -> b).count();
            int[] all = {rows.size(), removedOnes, barredOnes, allFree().size(), parts, measure, width, careful, last.size()};
            return what < 0 || what >= all.length ? -1 : all[what];
        }
    }
}
