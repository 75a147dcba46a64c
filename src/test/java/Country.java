import java.util.ArrayList;
import java.util.List;

/** The country told a second time, in the document's own words and without any care for speed. */
final class Country {
    static final int FAR = 999;
    static final int NEVER = -1;

    static final class One {
        int kind;
        int at;
        int errand;
        int mate = -1;
        int strength = 3;
        int rope;
        int holds;
        int tugs;
        int tuggedNow;
        boolean heldNow;

        int pulls(int clock) {
            return pullsOf(kind, clock);
        }

        private int pullsOf(int as, int clock) {
            switch (as) {
                case 0: return strength;
                case 1: return pullsOf(0, clock) + 5;
                case 2: return Math.max(pullsOf(0, clock) - 1, 0);
                case 3: return pullsOf(2, clock) + (clock % 2 == 0 ? 2 : 0);
                case 4: return pullsOf(3, clock) / 2;
                case 5: return pullsOf(0, clock);
                default: return 2 * pullsOf(1, clock);
            }
        }

        int goes() {
            return new int[] {1, 1, 2, 2, 3, 1, 0}[kind];
        }

        int slack() {
            return kind == 5 ? 3 : 0;
        }

        boolean isThere() {
            return at == errand;
        }
    }

    final int[][] ways = new int[10][10];
    // What was reckoned since the ways are as they are, else null.
    private int[][] reckoned = null;
    final List<One> all = new ArrayList<>();
    int clock = 0;

    Country() {
        for (int a = 0; a < 9; a++) setWay(a, a + 1, 1);
    }

    Country twin() {
        Country t = new Country();
        for (int a = 0; a < 10; a++) t.ways[a] = ways[a].clone();
        t.reckoned = reckoned;
        for (One one : all) {
            One o = new One();
            o.kind = one.kind;
            o.at = one.at;
            o.errand = one.errand;
            o.mate = one.mate;
            o.strength = one.strength;
            o.rope = one.rope;
            o.holds = one.holds;
            o.tugs = one.tugs;
            t.all.add(o);
        }
        t.clock = clock;
        return t;
    }

    void setWay(int a, int b, int v) {
        ways[a][b] = v;
        ways[b][a] = v;
        reckoned = null;
    }

    void add(int kind, int at) {
        One one = new One();
        one.kind = kind;
        one.at = at;
        one.errand = at;
        all.add(one);
    }

    void tie(int a, int b, int rope) {
        cut(a);
        cut(b);
        all.get(a).mate = b;
        all.get(b).mate = a;
        all.get(a).rope = rope;
        all.get(b).rope = rope;
    }

    void cut(int a) {
        int mate = all.get(a).mate;
        all.get(a).mate = -1;
        if (mate >= 0) all.get(mate).mate = -1;
    }

    int far(int a, int b) {
        if (reckoned == null) {
            reckoned = new int[10][];
            for (int p = 0; p < 10; p++) reckoned[p] = farFrom(p);
        }
        return reckoned[a][b];
    }

    // Bellman's way: as many rounds as there are places.
    private int[] farFrom(int a) {
        int[] best = new int[10];
        java.util.Arrays.fill(best, FAR);
        best[a] = 0;
        for (int round = 0; round < 10; round++) {
            for (int p = 0; p < 10; p++) {
                for (int q = 0; q < 10; q++) {
                    if (ways[p][q] > 0) best[q] = Math.min(best[q], best[p] + ways[p][q]);
                }
            }
        }
        return best;
    }

    boolean lets(One one, int place, One mate, int matePlace) {
        return far(place, matePlace) <= one.rope + one.slack() + mate.slack();
    }

    int next(int p) {
        One one = all.get(p);
        if (one.isThere() || far(one.at, one.errand) == FAR) return one.at;
        for (int q = 0; q < 10; q++) {
            int way = ways[one.at][q];
            if (way > 0 && far(one.at, one.errand) - far(q, one.errand) == way) return q;
        }
        throw new IllegalStateException("no way on");
    }

    // Whether anybody moved.
    boolean step() {
        boolean moved = false;
        for (One one : all) {
            one.tuggedNow = 0;
            one.heldNow = false;
        }
        for (int p = 0; p < all.size(); p++) {
            One one = all.get(p);
            for (int i = 0; i < one.goes() && !one.heldNow && !one.isThere(); i++) moved |= move(p);
        }
        clock++;
        return moved;
    }

    private boolean move(int p) {
        One one = all.get(p);
        int wanted = next(p);
        if (wanted == one.at) return false;
        if (one.mate < 0 || lets(one, wanted, all.get(one.mate), all.get(one.mate).at)) {
            one.at = wanted;
            return true;
        }
        One mate = all.get(one.mate);
        int to = -1;
        for (int q = 0; q < 10; q++) {
            if (ways[mate.at][q] > 0 && (to < 0 || far(q, wanted) < far(to, wanted))) to = q;
        }
        boolean stronger = one.pulls(clock) > mate.pulls(clock);
        if (stronger && to >= 0 && far(to, wanted) < far(mate.at, wanted) && lets(one, wanted, mate, to)) {
            one.at = wanted;
            mate.at = to;
            mate.tuggedNow++;
            mate.tugs = Math.min(mate.tugs + 1, 9999);
            return true;
        }
        one.heldNow = true;
        one.holds = Math.min(one.holds + 1, 9999);
        return false;
    }

    int there() {
        int set = 0;
        for (int p = 0; p < all.size(); p++) {
            if (all.get(p).isThere()) set |= 1 << p;
        }
        return set;
    }

    Country behind(int steps) {
        Country t = twin();
        for (int i = 0; i < steps; i++) t.step();
        return t;
    }

    int when(int p) {
        Country t = twin();
        for (int steps = 0; steps <= 60; steps++) {
            if (t.all.get(p).isThere()) return steps;
            t.step();
        }
        return NEVER;
    }

    int held() {
        Country t = twin();
        for (int steps = 0; steps < 60; steps++) {
            t.step();
            for (int p = 0; p < t.all.size(); p++) {
                if (t.all.get(p).heldNow) return p;
            }
        }
        return NEVER;
    }

    int still() {
        Country t = twin();
        for (int steps = 0; steps <= 60; steps++) {
            if (!t.step()) return steps;
        }
        return NEVER;
    }

    int length(int p) {
        if (all.get(p).mate < 0) return NEVER;
        for (int rope = 0; rope <= 99; rope++) {
            Country t = twin();
            t.tie(p, all.get(p).mate, rope);
            if (t.when(p) != NEVER) return rope;
        }
        return NEVER;
    }

    int kindFor(int p) {
        int best = NEVER;
        int fewest = 61;
        for (int kind = 0; kind < 7; kind++) {
            Country t = twin();
            t.all.get(p).kind = kind;
            int steps = t.when(p);
            if (steps != NEVER && steps < fewest) {
                fewest = steps;
                best = kind;
            }
        }
        return best;
    }

    int lead(int p) {
        int best = NEVER;
        int fewest = 61;
        for (int place = 0; place < 10 && all.get(p).mate >= 0; place++) {
            Country t = twin();
            t.all.get(all.get(p).mate).errand = place;
            int steps = t.when(p);
            if (steps != NEVER && steps < fewest) {
                fewest = steps;
                best = place;
            }
        }
        return best;
    }

    // The best set of cuts, and behind it how many are there then.
    int[] cuts() {
        int[] best = {0, Integer.bitCount(behind(60).there())};
        for (int set = 1; set < 1 << all.size(); set++) {
            Country t = twin();
            boolean lesser = true;
            for (int p = 0; p < all.size(); p++) {
                if ((set >> p & 1) == 0) continue;
                lesser &= all.get(p).mate > p;
                t.cut(p);
            }
            if (!lesser) continue;
            int there = Integer.bitCount(t.behind(60).there());
            boolean fewer = Integer.bitCount(set) < Integer.bitCount(best[0]);
            if (there > best[1] || there == best[1] && fewer) best = new int[] {set, there};
        }
        return best;
    }

    // How often one would be tugged in each step, if the other were the mate.
    int[] tugs(int p, int other, int rope, int steps) {
        Country t = twin();
        t.tie(p, other, rope);
        int[] tugs = new int[steps];
        for (int i = 0; i < steps; i++) {
            t.step();
            tugs[i] = t.all.get(p).tuggedNow;
        }
        return tugs;
    }

    int apart(int a, int b) {
        One one = all.get(a);
        One other = all.get(b);
        return Math.max(far(one.at, other.at), far(one.errand, other.errand));
    }

    // All rows of mates (-1: free) by which all are tied by twos.
    List<int[]> pairings() {
        List<int[]> found = new ArrayList<>();
        int[] mates = new int[all.size()];
        java.util.Arrays.fill(mates, -2);
        pairOn(mates, all.size() % 2 != 0, found);
        return found;
    }

    private void pairOn(int[] mates, boolean mayBeFree, List<int[]> found) {
        int first = 0;
        while (first < mates.length && mates[first] != -2) first++;
        if (first == mates.length) {
            found.add(mates.clone());
            return;
        }
        if (mayBeFree) {
            mates[first] = -1;
            pairOn(mates, false, found);
        }
        for (int other = first + 1; other < mates.length; other++) {
            if (mates[other] != -2) continue;
            mates[first] = other;
            mates[other] = first;
            pairOn(mates, mayBeFree, found);
            mates[other] = -2;
        }
        mates[first] = -2;
    }

    int ropeOf(int[] mates) {
        int sum = 0;
        for (int p = 0; p < mates.length; p++) {
            if (mates[p] > p) sum += apart(p, mates[p]);
        }
        return sum;
    }
}
