import java.util.List;
import java.util.Random;

/** Countries by chance (always the same ones): what the program tells of them, and what the second telling does. */
public final class CountryTest {
    private static final Check check = new Check("CountryTest");
    private static Random random = new Random(0);
    private static int number = 0;
    private static Country told = new Country();
    private static StrangerRopes x = new StrangerRopes();

    public static void main(String[] args) {
        for (number = 0; number < 700; number++) {
            random = new Random(number);
            make();
            compareStates();
            compareForecasts();
            comparePairings();
            compareTugs();
            compareSteps();
        }
        check.end();
    }

    private static void due(String call, long got, long want) {
        check.due("country " + number + ": " + call, got, want);
    }

    private static void dueOrNone(String call, long got, long want) {
        due(call, got, want == Country.NEVER ? Check.NONE : want);
    }

    private static int below(int n) {
        return random.nextInt(n);
    }

    private static void make() {
        told = new Country();
        x = new StrangerRopes();
        makeWays();
        int size = below(9);
        for (int p = 0; p < size; p++) makeOne(p);
        for (int i = below(5); i > 0 && size > 1; i--) {
            int a = below(size);
            int b = (a + 1 + below(size - 1)) % size;
            int rope = below(below(2) == 0 ? 5 : 20);
            told.tie(a, b, rope);
            boolean lets = told.lets(told.all.get(a), told.all.get(a).at, told.all.get(b), told.all.get(b).at);
            due("tie(" + a + ", " + b + ", " + rope + ")", x.tie(a, b, rope), lets ? 1 : 0);
        }
        int start = below(3);
        for (int i = 0; i < start; i++) told.step();
        if (start > 0) x.go(start);
    }

    private static void makeWays() {
        for (int i = below(14); i > 0; i--) {
            int a = below(10);
            int b = (a + 1 + below(9)) % 10;
            int v = below(3) == 0 ? 0 : 1 + below(9);
            due("way(" + a + ", " + b + ", " + v + ")", x.way(a, b, v), told.ways[a][b]);
            told.setWay(a, b, v);
        }
    }

    private static void makeOne(int p) {
        int kind = below(7);
        int at = below(10);
        told.add(kind, at);
        due("person(" + kind + ", " + at + ")", x.person(kind, at), p);
        if (below(5) > 0) {
            told.all.get(p).errand = below(10);
            x.change(p, 2, told.all.get(p).errand);
        }
        told.all.get(p).strength = below(10);
        x.change(p, 4, told.all.get(p).strength);
    }

    private static void compareStates() {
        for (int i = 0; i < 6; i++) {
            int a = below(10);
            int b = below(10);
            due("far(" + a + ", " + b + ")", x.far(a, b), told.far(a, b));
        }
        due("now(0)", x.now(0), told.clock);
        due("now(1)", x.now(1), told.there());
        for (int p = 0; p < told.all.size(); p++) {
            Country.One one = told.all.get(p);
            due("of(" + p + ", 1)", x.of(p, 1), one.at);
            due("of(" + p + ", 3)", x.of(p, 3), one.mate);
            due("of(" + p + ", 5)", x.of(p, 5), one.pulls(told.clock));
            due("next(" + p + ")", x.next(p), told.next(p));
            int place = below(10);
            boolean may = one.mate < 0 || told.lets(one, place, told.all.get(one.mate), told.all.get(one.mate).at);
            due("may(" + p + ", " + place + ")", x.may(p, place), may ? 1 : 0);
        }
    }

    private static void compareForecasts() {
        int n = below(61);
        due("ahead(" + n + ")", x.ahead(n), told.behind(n).there());
        dueOrNone("held()", x.held(), told.held());
        dueOrNone("still()", x.still(), told.still());
        for (int p = 0; p < told.all.size(); p++) {
            dueOrNone("when(" + p + ")", x.when(p), told.when(p));
            dueOrNone("kindFor(" + p + ")", x.kindFor(p), told.kindFor(p));
            dueOrNone("lead(" + p + ")", x.lead(p), told.lead(p));
            if (number % 10 == 0) dueOrNone("length(" + p + ")", x.length(p), told.length(p));
        }
        int[] cuts = told.cuts();
        due("cuts()", x.cuts(), cuts[0]);
        due("freed()", x.freed(), cuts[1]);
    }

    private static void comparePairings() {
        List<int[]> all = told.pairings();
        int least = Integer.MAX_VALUE;
        for (int[] mates : all) least = Math.min(least, told.ropeOf(mates));
        int[] first = null;
        int ways = 0;
        for (int[] mates : all) {
            if (told.ropeOf(mates) != least) continue;
            if (first == null) first = mates;
            ways++;
        }
        due("least()", x.least(), least);
        due("ways()", x.ways(), ways);
        for (int p = 0; p < told.all.size(); p++) due("mate(" + p + ")", x.mate(p), first[p]);
    }

    private static void compareTugs() {
        int size = told.all.size();
        if (size < 2) return;
        int person = below(size);
        int rope = below(4);
        int steps = below(5);
        int likely = (person + 1 + below(size - 1)) % size;
        int[] row = told.tugs(person, likely, rope, steps);
        if (steps > 0 && below(4) == 0) row[below(steps)]++;
        x.sheet(2, 16, steps);
        for (int i = 0; i < steps; i++) x.write(2, i, row[i]);
        int set = 0;
        for (int other = 0; other < size; other++) {
            boolean fits = other != person && java.util.Arrays.equals(row, told.tugs(person, other, rope, steps));
            if (fits) set |= 1 << other;
        }
        due("who(2, " + person + ", " + rope + ")", x.who(2, person, rope), set);
        due("fits(2, " + person + ", " + rope + ")", x.fits(2, person, rope), Integer.bitCount(set));
    }

    // Last, as the country becomes another: each step, and by judge() all of them together.
    private static void compareSteps() {
        int size = told.all.size();
        int steps = 12;
        x.sheet(0, 8, steps);
        for (int i = 0; i < steps && size > 0; i++) x.write(0, i, told.behind(i + 1).all.get(0).at);
        due("judge(0)", x.judge(0), size == 0 ? 1 : 0);
        int[] holds = new int[8];
        int[] tugs = new int[8];
        for (int p = 0; p < size; p++) {
            holds[p] = x.of(p, 7);
            tugs[p] = x.of(p, 8);
        }
        for (int i = 0; i < 3; i++) {
            told.step();
            due("go(1)", x.go(1), told.clock);
            for (int p = 0; p < size; p++) {
                holds[p] += told.all.get(p).heldNow ? 1 : 0;
                tugs[p] += told.all.get(p).tuggedNow;
                due("of(" + p + ", 1) behind a step", x.of(p, 1), told.all.get(p).at);
                due("of(" + p + ", 7) behind a step", x.of(p, 7), holds[p]);
                due("of(" + p + ", 8) behind a step", x.of(p, 8), tugs[p]);
            }
        }
    }
}
