public final class VectorGraphs {
    public static final int BAD = -1, NONE = -2, FULL = -3;

    private static final int BAD_PART = -1000;
    private static final int MOST_PARTS = 8;
    private static final int MOST_VECTORS = 100;
    private static final int MOST_LOOKED_FOR = 60;
    private static final int PART_LIMIT = 100;
    /** The full form of a vector is its short form with this q. */
    private static final int FULL_FORM = 100;
    /** The vector at hand is held behind the others, so that FAR is always one of two places. */
    private static final int HAND = MOST_VECTORS;

    private final Vectors vectors;
    private final Graph graph;
    private final Ranks last;
    private final Ranks scratch;
    private final Ranks looked;
    private int latestSteps;

    public VectorGraphs(int parts, int seed) {
        vectors = new Vectors(Math.max(1, Math.min(MOST_PARTS, parts)));
        graph = new Graph(vectors, seed);
        last = new Ranks(MOST_VECTORS);
        scratch = new Ranks(MOST_VECTORS);
        looked = new Ranks(MOST_VECTORS);
        latestSteps = 0;
    }

    public int part(int k, int v) {
        if (k < 0 || k >= vectors.parts || v < -PART_LIMIT || v > PART_LIMIT) {
            return BAD_PART;
        }
        return vectors.changeHand(k, v);
    }

    public int add() {
        if (vectors.total >= MOST_VECTORS) {
            return FULL;
        }
        int number = vectors.append();
        graph.join(number);
        return number;
    }

    public int take(int i) {
        if (!vectors.has(i)) {
            return BAD;
        }
        vectors.copy(i, HAND);
        return 1;
    }

    public int remove(int i) {
        if (!vectors.has(i)) {
            return BAD;
        }
        boolean was = vectors.removed[i];
        vectors.removed[i] = true;
        return was ? 0 : 1;
    }

    public int bar(int i, boolean on) {
        if (!vectors.has(i)) {
            return BAD;
        }
        boolean was = vectors.barred[i];
        vectors.barred[i] = on;
        return was ? 1 : 0;
    }

    public int clean() {
        int gone = vectors.closeUp();
        last.empty();
        graph.rebuild();
        return gone;
    }

    public int rule(int what, int v) {
        int was = BAD;
        if (what == 0 && v >= 0 && v <= 2) {
            was = vectors.measure;
            vectors.measure = v;
        } else if (what == 1 && v >= Graph.LEAST_WIDTH && v <= Graph.MOST_WIDTH) {
            was = graph.width;
            graph.width = v;
        } else if (what == 2 && (v == 0 || v == 1)) {
            was = graph.careful ? 1 : 0;
            graph.careful = v == 1;
        }
        if (was != BAD) {
            graph.rebuild();
        }
        return was;
    }

    public int exact(int n) {
        if (n < 1 || n > MOST_VECTORS) {
            return BAD;
        }
        rankFree(last, FULL_FORM);
        last.cutTo(n);
        return last.size;
    }

    public int look(int n, int e) {
        if (!mayLook(n, e)) {
            return BAD;
        }
        rankFound(last, e);
        last.cutTo(n);
        return last.size;
    }

    public int brief(int n, int m, int q) {
        if (n < 1 || m < n || m > MOST_VECTORS || q < 1 || q > FULL_FORM) {
            return BAD;
        }
        rankFree(scratch, q);
        scratch.cutTo(m);
        last.empty();
        for (int k = 0; k < scratch.size; k++) {
            int number = scratch.numberAt(k);
            last.put(number, vectors.apart(HAND, number, FULL_FORM));
        }
        last.cutTo(n);
        return last.size;
    }

    public int recall(int n, int e) {
        if (!mayLook(n, e)) {
            return BAD;
        }
        rankFree(scratch, FULL_FORM);
        scratch.cutTo(n);
        rankFound(looked, e);
        looked.cutTo(n);
        int both = 0;
        for (int k = 0; k < looked.size; k++) {
            if (scratch.holds(looked.numberAt(k))) {
                both++;
            }
        }
        return both;
    }

    public int at(int i) {
        return last.numberAt(i);
    }

    public int far(int i) {
        return vectors.has(i) ? vectors.apart(HAND, i, FULL_FORM) : BAD;
    }

    public int between(int i, int j) {
        return vectors.has(i) && vectors.has(j) ? vectors.apart(i, j, FULL_FORM) : BAD;
    }

    public int steps() {
        return latestSteps;
    }

    public int level(int i) {
        return vectors.has(i) ? graph.levelOf(i) : BAD;
    }

    public int entry() {
        return graph.entry;
    }

    public int neighbour(int i, int level, int k) {
        if (!vectors.has(i) || level < 0 || level > graph.levelOf(i)) {
            return BAD;
        }
        int many = graph.rowSize(i, level);
        if (k == -1) {
            return many;
        }
        return k >= 0 && k < many ? graph.linkAt(i, level, k) : BAD;
    }

    public int reached() {
        return graph.reachable();
    }

    public int count(int what) {
        switch (what) {
            case 0: return vectors.total;
            case 1: return vectors.marked(vectors.removed);
            case 2: return vectors.marked(vectors.barred);
            case 3: return vectors.freeOnes();
            case 4: return vectors.parts;
            case 5: return vectors.measure;
            case 6: return graph.width;
            case 7: return graph.careful ? 1 : 0;
            case 8: return last.size;
            default: return BAD;
        }
    }

    private static boolean mayLook(int n, int e) {
        return n >= 1 && e >= n && e <= MOST_LOOKED_FOR;
    }

    private void rankFree(Ranks into, int q) {
        into.empty();
        for (int i = 0; i < vectors.total; i++) {
            if (vectors.isFree(i)) {
                into.put(i, vectors.apart(HAND, i, q));
            }
        }
    }

    private void rankFound(Ranks into, int e) {
        graph.search(e);
        latestSteps = graph.walked;
        into.empty();
        for (int k = 0; k < graph.found.size; k++) {
            int number = graph.found.numberAt(k);
            if (vectors.isFree(number)) {
                into.put(number, graph.found.farAt(k));
            }
        }
    }

    /** The rows of parts, the one at hand too, and which of them are barred or removed. */
    private static final class Vectors {
        final int parts;
        final boolean[] removed;
        final boolean[] barred;
        private final int[] values;
        int total;
        int measure;

        Vectors(int parts) {
            this.parts = parts;
            removed = new boolean[MOST_VECTORS];
            barred = new boolean[MOST_VECTORS];
            values = new int[(MOST_VECTORS + 1) * parts];
            total = 0;
            measure = 0;
        }

        boolean has(int i) {
            return i >= 0 && i < total;
        }

        boolean isFree(int i) {
            return has(i) && !removed[i] && !barred[i];
        }

        int changeHand(int k, int v) {
            int place = HAND * parts + k;
            int was = values[place];
            values[place] = v;
            return was;
        }

        int append() {
            int number = total;
            copy(HAND, number);
            removed[number] = false;
            barred[number] = false;
            total++;
            return number;
        }

        void copy(int from, int to) {
            System.arraycopy(values, from * parts, values, to * parts, parts);
        }

        int closeUp() {
            int kept = 0;
            for (int i = 0; i < total; i++) {
                if (!removed[i]) {
                    copy(i, kept);
                    barred[kept] = barred[i];
                    // an earlier place may still bear the mark of one that went
                    removed[kept] = false;
                    kept++;
                }
            }
            int gone = total - kept;
            total = kept;
            return gone;
        }

        /** FAR of two places by their short forms with q. */
        int apart(int a, int b, int q) {
            int sum = 0;
            for (int k = 0; k < parts; k++) {
                int x = values[a * parts + k] * q / FULL_FORM;
                int y = values[b * parts + k] * q / FULL_FORM;
                int gap = x - y;
                if (measure == 0) {
                    sum += gap * gap;
                } else if (measure == 1) {
                    sum += x * y;
                } else {
                    sum += gap < 0 ? -gap : gap;
                }
            }
            return measure == 1 ? PART_LIMIT * q * parts - sum : sum;
        }

        /** How many of the vectors bear such a mark. */
        int marked(boolean[] marks) {
            int many = 0;
            for (int i = 0; i < total && i < marks.length; i++) {
                many += marks[i] ? 1 : 0;
            }
            return many;
        }

        int freeOnes() {
            int many = 0;
            for (int i = 0; i < total; i++) {
                many += isFree(i) ? 1 : 0;
            }
            return many;
        }
    }

    /** Numbers of vectors in order BEFORE, as seen from one vector, with their FAR from it. */
    private static final class Ranks {
        // FAR times MOST_VECTORS plus the number: the lesser key is BEFORE; below 33 million
        private final int[] keys;
        int size;

        Ranks(int room) {
            keys = new int[Math.max(1, room)];
            size = 0;
        }

        void empty() {
            size = 0;
        }

        int numberAt(int k) {
            return k >= 0 && k < size ? keys[k] % MOST_VECTORS : BAD;
        }

        int farAt(int k) {
            return k >= 0 && k < size ? keys[k] / MOST_VECTORS : BAD;
        }

        boolean holds(int number) {
            for (int k = 0; k < size; k++) {
                if (keys[k] % MOST_VECTORS == number) {
                    return true;
                }
            }
            return false;
        }

        boolean lastIsBefore(int number, int far) {
            return size > 0 && keys[size - 1] < far * MOST_VECTORS + number;
        }

        void put(int number, int far) {
            if (size >= keys.length) {
                return;
            }
            int key = far * MOST_VECTORS + number;
            int place = size;
            for (; place > 0 && keys[place - 1] > key; place--) {
                keys[place] = keys[place - 1];
            }
            keys[place] = key;
            size++;
        }

        void dropFirst() {
            if (size > 0) {
                size--;
                System.arraycopy(keys, 1, keys, 0, size);
            }
        }

        void cutTo(int most) {
            size = Math.max(0, Math.min(size, most));
        }

        /** What stands at k stands at an earlier place, too. */
        void moveUp(int k, int earlier) {
            if (earlier >= 0 && earlier <= k && k < size) {
                keys[earlier] = keys[k];
            }
        }
    }

    /** The rows of neighbours in levels, and the ways along them. */
    private static final class Graph {
        static final int LEAST_WIDTH = 2;
        static final int MOST_WIDTH = 6;
        private static final int TOP_LEVEL = 4;
        private static final int LEVELS = TOP_LEVEL + 1;
        private static final int FOUND_ON_JOINING = 12;
        private static final int ROW_AT_0 = 2 * MOST_WIDTH;
        private static final int LINKS_EACH = ROW_AT_0 + TOP_LEVEL * MOST_WIDTH;

        final Ranks found;
        int entry;
        int width;
        boolean careful;
        int walked;
        private final Vectors vectors;
        private final int seed;
        private final int[] links;
        private final int[] rowSizes;
        private final boolean[] met;
        private final int[] trail;
        private final Ranks open;
        private final Ranks pool;

        Graph(Vectors vectors, int seed) {
            this.vectors = vectors;
            this.seed = seed;
            entry = NONE;
            width = 4;
            careful = true;
            walked = 0;
            links = new int[MOST_VECTORS * LINKS_EACH];
            rowSizes = new int[MOST_VECTORS * LEVELS];
            met = new boolean[MOST_VECTORS];
            trail = new int[MOST_VECTORS];
            // one more than is kept: the last goes only after the new one has come
            found = new Ranks(MOST_LOOKED_FOR + 1);
            open = new Ranks(MOST_VECTORS);
            pool = new Ranks(ROW_AT_0 + 1);
        }

        int levelOf(int number) {
            int h = (seed ^ number) * 0x9E3779B1;
            h ^= h >>> 16;
            h *= 0x85EBCA6B;
            h ^= h >>> 13;
            int level = 0;
            for (; level < TOP_LEVEL && (h & 3) == 0; level++) {
                h >>>= 2;
            }
            return level;
        }

        int rowSize(int number, int level) {
            return rowSizes[number * LEVELS + level];
        }

        int linkAt(int number, int level, int k) {
            return links[rowStart(number, level) + k];
        }

        void rebuild() {
            entry = NONE;
            for (int row = 0; row < rowSizes.length; row++) {
                rowSizes[row] = 0;
            }
            for (int i = 0; i < vectors.total; i++) {
                join(i);
            }
        }

        void join(int newcomer) {
            if (entry == NONE) {
                entry = newcomer;
                return;
            }
            int own = levelOf(newcomer);
            int top = levelOf(entry);
            int from = descend(top, own, newcomer);
            for (int level = Math.min(own, top); level >= 0; level--) {
                from = joinLevel(newcomer, level, from);
            }
            if (own > top) {
                entry = newcomer;
            }
        }

        /** Fills FOUND as seen from the vector at hand; empty without vectors. */
        void search(int most) {
            walked = 0;
            found.empty();
            if (entry != NONE) {
                int from = descend(levelOf(entry), 0, HAND);
                go(from, 0, most, HAND);
            }
        }

        int reachable() {
            if (entry == NONE) {
                return 0;
            }
            forgetMet();
            met[entry] = true;
            trail[0] = entry;
            int come = 1;
            for (int k = 0; k < come && k < trail.length; k++) {
                come = followFrom(trail[k], come);
            }
            return come;
        }

        private int followFrom(int number, int come) {
            int all = come;
            int many = rowSize(number, 0);
            for (int k = 0; k < many; k++) {
                int other = linkAt(number, 0, k);
                if (!met[other] && all < trail.length) {
                    met[other] = true;
                    trail[all] = other;
                    all++;
                }
            }
            return all;
        }

        private int descend(int top, int bottom, int origin) {
            int from = entry;
            for (int level = top; level > bottom; level--) {
                go(from, level, 1, origin);
                from = found.numberAt(0);
            }
            return from;
        }

        private int joinLevel(int newcomer, int level, int from) {
            go(from, level, FOUND_ON_JOINING, newcomer);
            int next = found.numberAt(0);
            choose(found, rowLimit(level));
            writeRow(newcomer, level, found);
            int many = rowSize(newcomer, level);
            for (int k = 0; k < many; k++) {
                linkBack(linkAt(newcomer, level, k), level, newcomer);
            }
            return next;
        }

        private void linkBack(int owner, int level, int newcomer) {
            pool.empty();
            int many = rowSize(owner, level);
            for (int k = 0; k < many; k++) {
                int other = linkAt(owner, level, k);
                pool.put(other, vectors.apart(owner, other, FULL_FORM));
            }
            pool.put(newcomer, vectors.apart(owner, newcomer, FULL_FORM));
            if (pool.size > rowLimit(level)) {
                choose(pool, rowLimit(level));
            }
            writeRow(owner, level, pool);
        }

        /** Leaves only the chosen ones, in their order. */
        private void choose(Ranks others, int most) {
            int taken = 0;
            for (int k = 0; k < others.size && taken < most; k++) {
                boolean fits = true;
                for (int j = 0; careful && fits && j < taken; j++) {
                    fits = others.farAt(k)
                        < vectors.apart(others.numberAt(k), others.numberAt(j), FULL_FORM);
                }
                if (fits) {
                    others.moveUp(k, taken);
                    taken++;
                }
            }
            others.cutTo(taken);
        }

        private void writeRow(int owner, int level, Ranks row) {
            int start = rowStart(owner, level);
            int many = Math.min(row.size, rowLimit(level));
            for (int k = 0; k < many; k++) {
                links[start + k] = row.numberAt(k);
            }
            rowSizes[owner * LEVELS + level] = many;
        }

        private void go(int from, int level, int most, int origin) {
            forgetMet();
            found.empty();
            open.empty();
            meet(from, most, origin);
            // a vector comes to OPEN once at most
            for (int turn = 0; turn < MOST_VECTORS && open.size > 0; turn++) {
                int number = open.numberAt(0);
                int far = open.farAt(0);
                open.dropFirst();
                if (found.size >= most && found.lastIsBefore(number, far)) {
                    break;
                }
                int many = rowSize(number, level);
                for (int k = 0; k < many; k++) {
                    meet(linkAt(number, level, k), most, origin);
                }
            }
        }

        private void meet(int number, int most, int origin) {
            if (!vectors.has(number) || met[number]) {
                return;
            }
            met[number] = true;
            walked++;
            int far = vectors.apart(origin, number, FULL_FORM);
            if (found.size < most || !found.lastIsBefore(number, far)) {
                found.put(number, far);
                found.cutTo(most);
                open.put(number, far);
            }
        }

        private void forgetMet() {
            for (int i = 0; i < met.length; i++) {
                met[i] = false;
            }
        }

        private int rowLimit(int level) {
            return level == 0 ? 2 * width : width;
        }

        private static int rowStart(int number, int level) {
            int start = number * LINKS_EACH;
            return level == 0 ? start : start + ROW_AT_0 + (level - 1) * MOST_WIDTH;
        }
    }
}
