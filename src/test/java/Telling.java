import java.util.ArrayList;
import java.util.Arrays;
import java.util.List;
import java.util.regex.Matcher;
import java.util.regex.Pattern;

/** Each act of the document told a second time, upon Country: its findings in their order, else its answer. */
final class Telling {
    /** Thrown where an act finds something: which one of 0 BEYOND to 6 SIZE. */
    private static final class Finding extends RuntimeException {
        private static final long serialVersionUID = 1L;
        final int which;

        Finding(int which) {
            super(null, null, false, false);
            this.which = which;
        }
    }

    /** Thrown where a TEXT has a FAULT. */
    private static final class Fault extends RuntimeException {
        private static final long serialVersionUID = 1L;
        final int place;

        Fault(int place) {
            super(null, null, false, false);
            this.place = place;
        }
    }

    private static final int BEYOND = 0;
    private static final int FULL = 1;
    private static final int KIND = 2;
    private static final int NONE = 3;
    private static final int STATE = 4;
    private static final int MISSING = 5;
    private static final int SIZE = 6;
    private static final List<String> WORDS =
        List.of("person", "stout", "runner", "dancer", "thief", "sailor", "anchor", "way", "tie");
    // All kinds of which one of a kind is one: itself, then what stands above it.
    private static final int[][] ABOVE = {{0}, {1, 0}, {2, 0}, {3, 2, 0}, {4, 3, 2, 0}, {5, 0}, {6, 1, 0}};

    private Country land = new Country();
    private int[] spots = new int[10];
    private int z = 1;
    private Country keptLand = null;
    private int[] keptSpots = null;
    private int keptZ = 0;
    private final StringBuilder tape = new StringBuilder();
    private final int[] bits = new int[4];
    private final int[][] rows = new int[4][];
    private final int[] findings = new int[7];

    Telling() {
        Arrays.fill(spots, -1);
    }

    int people() {
        return land.all.size();
    }

    long answer(String act, int... v) {
        try {
            return told(act, v);
        } catch (Finding finding) {
            findings[finding.which]++;
            return -1000001 - finding.which;
        }
    }

    private long told(String act, int[] v) {
        switch (act) {
            case "way": case "far": case "person": case "of": case "change": case "tie": case "cut": case "rope":
                return ofCountry(act, v);
            case "go": case "now": case "next": case "may": case "days": case "seed":
                return ofSteps(act, v);
            case "when": case "ahead": case "held": case "still": case "length": case "kindFor": case "lead":
            case "cuts": case "freed": case "judge":
                return ofForecasts(act, v);
            case "apart": case "least": case "mate": case "ways": case "fits": case "who": case "pulls": case "knots":
                return ofRopesToBe(act, v);
            case "feed": case "wipe": case "text": case "sheet": case "write": case "copy": case "load":
                return ofTapeAndSheets(act, v);
            default:
                return ofKeeping(act, v);
        }
    }

    private static void ask(boolean holds, int finding) {
        if (!holds) throw new Finding(finding);
    }

    private static boolean in(int v, int least, int most) {
        return v >= least && v <= most;
    }

    private Country.One one(int p) {
        ask(in(p, 0, people() - 1), BEYOND);
        return land.all.get(p);
    }

    private long ofCountry(String act, int[] v) {
        switch (act) {
            case "way": {
                ask(in(v[0], 0, 9) && in(v[1], 0, 9) && v[0] != v[1] && in(v[2], 0, 9), BEYOND);
                int before = land.ways[v[0]][v[1]];
                land.setWay(v[0], v[1], v[2]);
                return before;
            }
            case "far":
                ask(in(v[0], 0, 9) && in(v[1], 0, 9), BEYOND);
                return land.far(v[0], v[1]);
            case "person":
                ask(in(v[0], 0, 6) && in(v[1], 0, 9), BEYOND);
                ask(people() < 8, FULL);
                land.add(v[0], v[1]);
                return people() - 1;
            case "of": {
                Country.One one = one(v[0]);
                ask(in(v[1], 0, 8), BEYOND);
                return new int[] {one.kind, one.at, one.errand, one.mate, one.strength, one.pulls(land.clock), one.goes(),
                    one.holds, one.tugs}[v[1]];
            }
            case "change": return change(one(v[0]), v[1], v[2]);
            case "tie":
                one(v[0]);
                one(v[1]);
                ask(v[0] != v[1] && in(v[2], 0, 999), BEYOND);
                land.tie(v[0], v[1], v[2]);
                return mayBe(one(v[0]), one(v[0]).at) ? 1 : 0;
            case "cut": {
                int mate = one(v[0]).mate;
                ask(mate >= 0, NONE);
                land.cut(v[0]);
                return mate;
            }
            default:
                ask(one(v[0]).mate >= 0, NONE);
                return one(v[0]).rope;
        }
    }

    private long change(Country.One one, int what, int v) {
        int before;
        switch (what) {
            case 0:
                ask(in(v, 0, 6), BEYOND);
                before = one.kind;
                one.kind = v;
                return before;
            case 1:
                ask(in(v, 0, 9), BEYOND);
                ask(mayBe(one, v), STATE);
                before = one.at;
                one.at = v;
                return before;
            case 2:
                ask(in(v, 0, 9), BEYOND);
                before = one.errand;
                one.errand = v;
                return before;
            case 4:
                ask(in(v, 0, 9), BEYOND);
                before = one.strength;
                one.strength = v;
                return before;
            default: throw new Finding(BEYOND);
        }
    }

    private boolean mayBe(Country.One one, int place) {
        return one.mate < 0 || land.lets(one, place, one(one.mate), one(one.mate).at);
    }

    private long ofSteps(String act, int[] v) {
        switch (act) {
            case "go":
                ask(in(v[0], 1, 40), BEYOND);
                ask(land.clock + v[0] <= 99999, STATE);
                for (int i = 0; i < v[0]; i++) land.step();
                return land.clock;
            case "now": return now(v[0]);
            case "next":
                one(v[0]);
                return land.next(v[0]);
            case "may": {
                Country.One one = one(v[0]);
                ask(in(v[1], 0, 9), BEYOND);
                return mayBe(one, v[1]) ? 1 : 0;
            }
            case "seed": {
                int before = z;
                z = v[0];
                return before;
            }
            default: return days(v[0]);
        }
    }

    private long now(int what) {
        ask(in(what, 0, 4), BEYOND);
        int tight = 0;
        int holds = 0;
        int tugs = 0;
        for (int p = 0; p < people(); p++) {
            Country.One one = one(p);
            holds += one.holds;
            tugs += one.tugs;
            if (one.mate < 0) continue;
            Country.One mate = one(one.mate);
            if (land.far(one.at, mate.at) == one.rope + one.slack() + mate.slack()) tight |= 1 << p;
        }
        return new int[] {land.clock, land.there(), tight, holds, tugs}[what];
    }

    private long days(int n) {
        ask(in(n, 1, 10), BEYOND);
        ask(land.clock + 10 * n <= 99999, STATE);
        int there = 0;
        for (int day = 0; day < n; day++) {
            for (Country.One one : land.all) {
                z = z * 1103515245 + 12345;
                one.errand = (z >>> 8) % 10;
            }
            for (int i = 0; i < 10; i++) land.step();
            there += Integer.bitCount(land.there());
        }
        return there;
    }

    private long ofForecasts(String act, int[] v) {
        switch (act) {
            case "ahead":
                ask(in(v[0], 0, 60), BEYOND);
                return land.behind(v[0]).there();
            case "held": return orNone(land.held());
            case "still": return orNone(land.still());
            case "cuts": return land.cuts()[0];
            case "freed": return land.cuts()[1];
            case "judge": return judge(row(v[0]));
            default: one(v[0]);
        }
        switch (act) {
            case "when": return orNone(land.when(v[0]));
            case "length": return orNone(land.length(v[0]));
            case "kindFor": return orNone(land.kindFor(v[0]));
            default: return orNone(land.lead(v[0]));
        }
    }

    private static long orNone(int answer) {
        ask(answer != Country.NEVER, NONE);
        return answer;
    }

    private long judge(int[] row) {
        for (int i = 0; i < row.length; i++) {
            if (people() == 0 || land.behind(i + 1).all.get(0).at != row[i]) return 1 + i;
        }
        return 0;
    }

    private long ofRopesToBe(String act, int[] v) {
        switch (act) {
            case "apart":
                one(v[0]);
                one(v[1]);
                ask(v[0] != v[1], BEYOND);
                return land.apart(v[0], v[1]);
            case "least": return land.ropeOf(best().get(0));
            case "mate":
                one(v[0]);
                return best().get(0)[v[0]];
            case "ways": return best().size();
            case "fits": return Long.bitCount(who(v));
            case "who": return who(v);
            case "pulls": return pulls(v[0]);
            default: {
                ask(in(v[0], 0, 6) && in(v[1], 1, 99), BEYOND);
                long rows = 1;
                for (int i = 0; i < v[0]; i++) rows *= v[1];
                return rows;
            }
        }
    }

    // The pairings with as little rope together, by the order in which the document looks for the first.
    private List<int[]> best() {
        List<int[]> best = new ArrayList<>();
        for (int[] mates : land.pairings()) {
            int rope = land.ropeOf(mates);
            if (!best.isEmpty() && rope < land.ropeOf(best.get(0))) best.clear();
            if (best.isEmpty() || rope == land.ropeOf(best.get(0))) best.add(mates);
        }
        return best;
    }

    private long who(int[] v) {
        int[] row = row(v[0]);
        one(v[1]);
        ask(in(v[2], 0, 99), BEYOND);
        int set = 0;
        for (int other = 0; other < people(); other++) {
            if (other != v[1] && Arrays.equals(row, land.tugs(v[1], other, v[2], row.length))) set |= 1 << other;
        }
        return set;
    }

    private long pulls(int set) {
        ask(in(set, 0, (1 << people()) - 1), BEYOND);
        int together = 0;
        int pulled = 0;
        for (int p = 0; p < people(); p++) together += (set >> p & 1) * one(p).pulls(land.clock);
        for (int p = 0; p < people(); p++) {
            if ((set >> p & 1) == 0 && one(p).pulls(land.clock) < together) pulled |= 1 << p;
        }
        return pulled;
    }

    private int[] row(int s) {
        ask(in(s, 0, 3), BEYOND);
        ask(rows[s] != null, MISSING);
        return rows[s];
    }

    private long ofTapeAndSheets(String act, int[] v) {
        switch (act) {
            case "feed":
                ask(in(v[1], 1, 4), BEYOND);
                ask(tape.length() + v[1] <= 120, FULL);
                for (int i = v[1]; i > 0; i--) tape.append((char) (v[0] >>> 8 * (i - 1) & 255));
                return tape.length();
            case "wipe": {
                int before = tape.length();
                tape.setLength(0);
                return before;
            }
            case "text": return text();
            case "sheet": return sheet(v[0], v[1], v[2]);
            case "write": {
                int[] row = row(v[0]);
                ask(in(v[1], 0, row.length - 1), BEYOND);
                int above = 32 - bits[v[0]];
                row[v[1]] = v[2] << above >> above;
                return 1;
            }
            case "copy": return copy(v);
            default: {
                int[] row = row(v[0]);
                int came = 0;
                while (came < row.length && came < people() && in(row[came], 0, 9)) {
                    one(came).errand = row[came];
                    came++;
                }
                return came;
            }
        }
    }

    private long sheet(int s, int newBits, int n) {
        ask(in(s, 0, 3) && List.of(0, 8, 16, 32).contains(newBits), BEYOND);
        ask(n >= 0, SIZE);
        ask(n <= 40, BEYOND);
        bits[s] = newBits;
        rows[s] = newBits == 0 ? null : new int[n];
        return newBits == 0 ? 0 : n;
    }

    private long copy(int[] v) {
        ask(in(v[0], 0, 3) && in(v[2], 0, 3), BEYOND);
        int[] from = row(v[0]);
        int[] to = row(v[2]);
        ask(bits[v[0]] == bits[v[2]], KIND);
        ask(v[1] >= 0 && v[3] >= 0 && v[4] >= 0, BEYOND);
        ask((long) v[1] + v[4] <= from.length && (long) v[3] + v[4] <= to.length, BEYOND);
        int[] were = from.clone();
        for (int i = 0; i < v[4]; i++) to[v[3] + i] = were[v[1] + i];
        return v[4];
    }

    // Item by item on a twin of the country, which takes its place if there was no fault.
    private long text() {
        String text = tape.toString();
        tape.setLength(0);
        Country twin = land.twin();
        Matcher tokens = Pattern.compile("\\G *([a-z]+|[0-9]+|;|$|[^ ])", Pattern.DOTALL).matcher(text);
        List<String> words = new ArrayList<>();
        List<Integer> places = new ArrayList<>();
        while (tokens.find()) {
            words.add(tokens.group(1));
            places.add(tokens.start(1));
            if (tokens.group(1).isEmpty()) break;
        }
        try {
            int items = new Grammar(words, places, twin).items();
            land = twin;
            return items;
        } catch (Fault fault) {
            return -1 - fault.place;
        }
    }

    /** The grammar of a TEXT, by the row of its TOKENS (the last one is empty: the end). */
    private static final class Grammar {
        private final List<String> words;
        private final List<Integer> places;
        private final Country to;
        private int i = 0;

        Grammar(List<String> words, List<Integer> places, Country to) {
            this.words = words;
            this.places = places;
            this.to = to;
        }

        int items() {
            int items = 0;
            do {
                item();
                items++;
            } while (isNext(";"));
            if (!words.get(i).isEmpty()) throw new Fault(places.get(i));
            return items;
        }

        private boolean isNext(String word) {
            if (!words.get(i).equals(word)) return false;
            i++;
            return true;
        }

        private void item() {
            int head = WORDS.indexOf(words.get(i));
            if (head < 0 || head < 7 && to.all.size() == 8) throw new Fault(places.get(i));
            i++;
            if (head < 7) {
                person(head);
            } else if (head == 7) {
                int a = number(9, -1);
                int b = number(9, a);
                to.setWay(a, b, number(9, -1));
            } else {
                int a = number(to.all.size() - 1, -1);
                int b = number(to.all.size() - 1, a);
                to.tie(a, b, number(999, -1));
            }
        }

        private void person(int kind) {
            int at = isNext("at") ? number(9, -1) : 0;
            int errand = isNext("to") ? number(9, -1) : at;
            int strength = isNext("strength") ? number(9, -1) : 3;
            to.add(kind, at);
            Country.One one = to.all.get(to.all.size() - 1);
            one.errand = errand;
            one.strength = strength;
        }

        private int number(int most, int unlike) {
            String digits = words.get(i);
            boolean isNumber = !digits.isEmpty() && Character.isDigit(digits.charAt(0));
            if (!isNumber || new java.math.BigInteger(digits).compareTo(java.math.BigInteger.valueOf(most)) > 0) {
                throw new Fault(places.get(i));
            }
            if (Integer.parseInt(digits) == unlike) throw new Fault(places.get(i));
            i++;
            return Integer.parseInt(digits);
        }
    }

    private long ofKeeping(String act, int[] v) {
        switch (act) {
            case "hold":
                ask(in(v[0], 0, 9) && in(v[1], -1, people() - 1), BEYOND);
                spots[v[0]] = v[1];
                return 1;
            case "as": {
                ask(in(v[0], 0, 9) && in(v[1], 0, 6), BEYOND);
                ask(spots[v[0]] >= 0, MISSING);
                boolean isOne = Arrays.stream(ABOVE[one(spots[v[0]]).kind]).anyMatch(kind -> kind == v[1]);
                ask(isOne, KIND);
                return spots[v[0]];
            }
            case "image":
                keptLand = land.twin();
                keptSpots = spots.clone();
                keptZ = z;
                return 1;
            case "undo":
                ask(keptLand != null, NONE);
                land = keptLand.twin();
                spots = keptSpots.clone();
                z = keptZ;
                return land.clock;
            case "tear": {
                int before = keptLand == null ? 0 : 1;
                keptLand = null;
                return before;
            }
            case "count": return count(v[0]);
            default:
                ask(in(v[0], -1, 6), BEYOND);
                return v[0] == -1 ? Arrays.stream(findings).sum() : findings[v[0]];
        }
    }

    private long count(int what) {
        ask(in(what, 0, 7), BEYOND);
        int twiceWays = Arrays.stream(land.ways).flatMapToInt(Arrays::stream).sum();
        List<Country.One> tied = land.all.stream().filter(one -> one.mate >= 0).toList();
        int twiceRopes = tied.stream().mapToInt(one -> one.rope).sum();
        int full = (int) Arrays.stream(spots).filter(spot -> spot >= 0).count();
        return new int[] {land.clock, people(), tied.size() / 2, twiceWays / 2, twiceRopes / 2, tape.length(), z,
            full}[what];
    }
}
