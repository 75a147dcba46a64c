import java.util.Arrays;

/** A country in which each is tied by the waist to somebody unseen; what each call does is told in ../shared/DOC.md. */
public final class StrangerRopes {
    private static final int LOW = -1000001;
    private static final int BEYOND = 0;
    private static final int FULL = 1;
    private static final int KIND = 2;
    private static final int NONE = 3;
    private static final int STATE = 4;
    private static final int MISSING = 5;
    private static final int SIZE = 6;
    private static final int FINDINGS = 7;
    private static final int NO_FINDING = -1;

    private static final int PERSON = 0;
    private static final int STOUT = 1;
    private static final int RUNNER = 2;
    private static final int DANCER = 3;
    private static final int THIEF = 4;
    private static final int SAILOR = 5;
    private static final int ANCHOR = 6;
    private static final int KINDS = 7;
    private static final int NO_KIND = -1;

    private static final int PLACES = 10;
    private static final int LONGEST_WAY = 9;
    private static final int FAR = 999;
    private static final int MOST_PEOPLE = 8;
    private static final int SETS = 256;
    private static final int FIRST_STRENGTH = 3;
    private static final int STRONGEST = 9;
    private static final int LONGEST_ROPE = 999;
    private static final int LONGEST_TRIED = 99;
    private static final int LAST_CLOCK = 99999;
    private static final int LAST_TALLY = 9999;
    private static final int NOBODY = -1;

    private static final int MOST_STEPS = 40;
    private static final int FORESEEN = 60;
    private static final int NEVER = 61;
    private static final int MOST_DAYS = 10;
    private static final int STEPS_OF_A_DAY = 10;
    private static final int MOST_GUESSES = 6;
    private static final int LARGEST_GUESS = 99;

    private static final int MOST_BYTES = 120;
    private static final int SPOTS = 10;
    private static final int SHEETS = 4;
    private static final int MOST_NUMBERS = 40;

    private final Roads roads = new Roads();
    private final People people = new People(roads);
    private final int[] spots = new int[SPOTS];
    private int draw = 1;

    private final Roads keptRoads = new Roads();
    private final People keptPeople = new People(keptRoads);
    private final int[] keptSpots = new int[SPOTS];
    private int keptDraw = 1;
    private boolean isKept = false;

    // What will be is tried on these, so that nothing of the country changes.
    private final People trial = new People(roads);
    private final Pairings pairings = new Pairings();

    private final Tape tape = new Tape();
    private final Reader reader = new Reader(tape);
    private final Sheets sheets = new Sheets();
    private final int[] tallies = new int[FINDINGS];

    public StrangerRopes() {
        Arrays.fill(spots, NOBODY);
    }

    // ---- places, people, ropes

    public int way(int a, int b, int v) {
        if (!isPlace(a) || !isPlace(b) || a == b || v < 0 || v > LONGEST_WAY) return found(BEYOND);
        int before = roads.lengthOf(a, b);
        roads.lay(a, b, v);
        return before;
    }

    public int far(int a, int b) {
        if (!isPlace(a) || !isPlace(b)) return found(BEYOND);
        return roads.distance(a, b);
    }

    public int person(int kind, int at) {
        if (!isKind(kind) || !isPlace(at)) return found(BEYOND);
        if (people.number() >= MOST_PEOPLE) return found(FULL);
        return people.add(kind, at);
    }

    public int of(int person, int what) {
        if (!people.has(person)) return found(BEYOND);
        switch (what) {
            case 0: return people.kindOf(person);
            case 1: return people.placeOf(person);
            case 2: return people.errandOf(person);
            case 3: return people.mateOf(person);
            case 4: return people.strengthOf(person);
            case 5: return people.pullsOf(person);
            case 6: return goesOf(people.kindOf(person));
            case 7: return people.holdsOf(person);
            case 8: return people.tugsOf(person);
            default: return found(BEYOND);
        }
    }

    public int change(int person, int what, int v) {
        if (!people.has(person)) return found(BEYOND);
        switch (what) {
            case 0: return isKind(v) ? people.setKind(person, v) : found(BEYOND);
            case 1: return isPlace(v) ? moveTo(person, v) : found(BEYOND);
            case 2: return isPlace(v) ? people.setErrand(person, v) : found(BEYOND);
            case 4: return v >= 0 && v <= STRONGEST ? people.setStrength(person, v) : found(BEYOND);
            default: return found(BEYOND);
        }
    }

    private int moveTo(int person, int place) {
        if (!people.ropeLets(person, place)) return found(STATE);
        return people.setPlace(person, place);
    }

    public int tie(int a, int b, int length) {
        if (!people.has(a) || !people.has(b) || a == b) return found(BEYOND);
        if (length < 0 || length > LONGEST_ROPE) return found(BEYOND);
        people.join(a, b, length);
        return people.ropeLets(a, people.placeOf(a)) ? 1 : 0;
    }

    public int cut(int person) {
        if (!people.has(person)) return found(BEYOND);
        if (!people.isTied(person)) return found(NONE);
        int mate = people.mateOf(person);
        people.part(person);
        return mate;
    }

    public int rope(int person) {
        if (!people.has(person)) return found(BEYOND);
        if (!people.isTied(person)) return found(NONE);
        return people.ropeOf(person);
    }

    // ---- steps

    public int go(int n) {
        if (n < 1 || n > MOST_STEPS) return found(BEYOND);
        if (people.clock() + n > LAST_CLOCK) return found(STATE);
        people.takeSteps(n);
        return people.clock();
    }

    public int now(int what) {
        switch (what) {
            case 0: return people.clock();
            case 1: return people.thereSet();
            case 2: return people.tightSet();
            case 3: return people.holdsOfAll();
            case 4: return people.tugsOfAll();
            default: return found(BEYOND);
        }
    }

    public int next(int person) {
        if (!people.has(person)) return found(BEYOND);
        return roads.nextPlace(people.placeOf(person), people.errandOf(person));
    }

    public int may(int person, int place) {
        if (!people.has(person) || !isPlace(place)) return found(BEYOND);
        return people.ropeLets(person, place) ? 1 : 0;
    }

    // ---- what will be (nothing changes)

    public int when(int person) {
        if (!people.has(person)) return found(BEYOND);
        trial.become(people);
        int steps = trial.stepsUntilThere(person);
        return steps == NEVER ? found(NONE) : steps;
    }

    public int ahead(int n) {
        if (n < 0 || n > FORESEEN) return found(BEYOND);
        trial.become(people);
        trial.takeSteps(n);
        return trial.thereSet();
    }

    public int held() {
        trial.become(people);
        for (int i = 0; i < FORESEEN; i++) {
            trial.takeSteps(1);
            if (trial.firstHeld() != NOBODY) return trial.firstHeld();
        }
        return found(NONE);
    }

    public int still() {
        trial.become(people);
        for (int steps = 0; steps <= FORESEEN; steps++) {
            trial.takeSteps(1);
            if (trial.moves() == 0) return steps;
        }
        return found(NONE);
    }

    public int length(int person) {
        if (!people.has(person)) return found(BEYOND);
        if (!people.isTied(person)) return found(NONE);
        for (int length = 0; length <= LONGEST_TRIED; length++) {
            trial.become(people);
            trial.join(person, people.mateOf(person), length);
            if (trial.stepsUntilThere(person) != NEVER) return length;
        }
        return found(NONE);
    }

    public int kindFor(int person) {
        if (!people.has(person)) return found(BEYOND);
        int best = NOBODY;
        int fewest = NEVER;
        for (int kind = 0; kind < KINDS; kind++) {
            trial.become(people);
            trial.setKind(person, kind);
            int steps = trial.stepsUntilThere(person);
            if (steps < fewest) {
                fewest = steps;
                best = kind;
            }
        }
        return fewest == NEVER ? found(NONE) : best;
    }

    public int lead(int person) {
        if (!people.has(person)) return found(BEYOND);
        if (!people.isTied(person)) return found(NONE);
        int best = NOBODY;
        int fewest = NEVER;
        for (int place = 0; place < PLACES; place++) {
            trial.become(people);
            trial.setErrand(people.mateOf(person), place);
            int steps = trial.stepsUntilThere(person);
            if (steps < fewest) {
                fewest = steps;
                best = place;
            }
        }
        return fewest == NEVER ? found(NONE) : best;
    }

    // ---- cuts

    public int cuts() {
        int ropes = people.lesserMates();
        int best = 0;
        int most = thereAfterCuts(0);
        for (int set = 1; set < SETS; set++) {
            if ((set & ropes) == set) {
                int there = thereAfterCuts(set);
                boolean isFewer = Integer.bitCount(set) < Integer.bitCount(best);
                if (there > most || there == most && isFewer) {
                    most = there;
                    best = set;
                }
            }
        }
        return best;
    }

    public int freed() {
        return thereAfterCuts(cuts());
    }

    private int thereAfterCuts(int set) {
        trial.become(people);
        for (int p = 0; p < MOST_PEOPLE; p++) {
            if (isIn(p, set)) trial.part(p);
        }
        trial.takeSteps(FORESEEN);
        return Integer.bitCount(trial.thereSet());
    }

    // ---- who should be tied to whom

    public int apart(int a, int b) {
        if (!people.has(a) || !people.has(b) || a == b) return found(BEYOND);
        return people.apartness(a, b);
    }

    public int least() {
        pairings.reckon(people);
        return pairings.leastOfAll();
    }

    public int mate(int person) {
        if (!people.has(person)) return found(BEYOND);
        pairings.reckon(people);
        return pairings.partnerOf(person);
    }

    public int ways() {
        pairings.reckon(people);
        return pairings.numberOfBest();
    }

    // ---- tugs that were told

    public int fits(int s, int person, int v) {
        int finding = findingOfTold(s, person, v);
        return finding == NO_FINDING ? Integer.bitCount(fittingSet(s, person, v)) : found(finding);
    }

    public int who(int s, int person, int v) {
        int finding = findingOfTold(s, person, v);
        return finding == NO_FINDING ? fittingSet(s, person, v) : found(finding);
    }

    private int findingOfTold(int s, int person, int v) {
        if (!isSheet(s)) return BEYOND;
        if (sheets.isMissing(s)) return MISSING;
        if (!people.has(person) || v < 0 || v > LONGEST_TRIED) return BEYOND;
        return NO_FINDING;
    }

    private int fittingSet(int s, int person, int v) {
        int set = 0;
        for (int other = 0; other < people.number(); other++) {
            if (other != person && isTuggedAsTold(s, person, other, v)) set |= 1 << other;
        }
        return set;
    }

    private boolean isTuggedAsTold(int s, int person, int other, int v) {
        trial.become(people);
        trial.join(person, other, v);
        for (int i = 0; i < sheets.sizeOf(s); i++) {
            trial.takeSteps(1);
            if (trial.tugsInStep(person) != sheets.numberAt(s, i)) return false;
        }
        return true;
    }

    // ---- pulls, knots, draws

    public int pulls(int set) {
        if (set < 0 || set > people.everybody()) return found(BEYOND);
        int together = 0;
        for (int p = 0; p < people.number(); p++) {
            if (isIn(p, set)) together += people.pullsOf(p);
        }
        int pulled = 0;
        for (int p = 0; p < people.number(); p++) {
            if (!isIn(p, set) && people.pullsOf(p) < together) pulled |= 1 << p;
        }
        return pulled;
    }

    public long knots(int n, int v) {
        if (n < 0 || n > MOST_GUESSES || v < 1 || v > LARGEST_GUESS) return found(BEYOND);
        long rows = 1L;
        for (int i = 0; i < n; i++) rows *= v;
        return rows;
    }

    public int days(int n) {
        if (n < 1 || n > MOST_DAYS) return found(BEYOND);
        if (people.clock() + n * STEPS_OF_A_DAY > LAST_CLOCK) return found(STATE);
        int there = 0;
        for (int day = 0; day < n; day++) {
            for (int p = 0; p < people.number(); p++) people.setErrand(p, drawn() % PLACES);
            people.takeSteps(STEPS_OF_A_DAY);
            there += Integer.bitCount(people.thereSet());
        }
        return there;
    }

    private int drawn() {
        draw = draw * 1103515245 + 12345;
        return draw >>> 8;
    }

    public int seed(int v) {
        int before = draw;
        draw = v;
        return before;
    }

    // ---- texts

    public int feed(int bytes, int n) {
        if (n < 1 || n > 4) return found(BEYOND);
        if (tape.size() + n > MOST_BYTES) return found(FULL);
        tape.append(bytes, n);
        return tape.size();
    }

    public int wipe() {
        int before = tape.size();
        tape.clear();
        return before;
    }

    public int text() {
        int fault = reader.faultOf(people.number());
        tape.clear();
        if (fault != Reader.NO_FAULT) return -1 - fault;
        for (int i = 0; i < reader.items(); i++) carryOut(i);
        return reader.items();
    }

    private void carryOut(int item) {
        int first = reader.part(item, 1);
        int second = reader.part(item, 2);
        int third = reader.part(item, 3);
        int head = reader.part(item, 0);
        if (head == Reader.WAY) {
            roads.lay(first, second, third);
        } else if (head == Reader.TIE) {
            people.join(first, second, third);
        } else {
            int person = people.add(head, first);
            people.setErrand(person, second);
            people.setStrength(person, third);
        }
    }

    // ---- spots, sheets

    public int hold(int spot, int person) {
        if (!isSpot(spot) || person != NOBODY && !people.has(person)) return found(BEYOND);
        spots[spot] = person;
        return 1;
    }

    public int as(int spot, int kind) {
        if (!isSpot(spot) || !isKind(kind)) return found(BEYOND);
        int person = spots[spot];
        if (person == NOBODY) return found(MISSING);
        return isUnder(people.kindOf(person), kind) ? person : found(KIND);
    }

    public int sheet(int s, int bits, int n) {
        if (!isSheet(s) || bits != 0 && bits != 8 && bits != 16 && bits != 32) return found(BEYOND);
        if (n < 0) return found(SIZE);
        if (n > MOST_NUMBERS) return found(BEYOND);
        sheets.lay(s, bits, n);
        return sheets.sizeOf(s);
    }

    public int write(int s, int i, int v) {
        if (!isSheet(s)) return found(BEYOND);
        if (sheets.isMissing(s)) return found(MISSING);
        if (i < 0 || i >= sheets.sizeOf(s)) return found(BEYOND);
        sheets.put(s, i, v);
        return 1;
    }

    public int copy(int s, int from, int t, int to, int n) {
        if (!isSheet(s) || !isSheet(t)) return found(BEYOND);
        if (sheets.isMissing(s) || sheets.isMissing(t)) return found(MISSING);
        if (sheets.bitsOf(s) != sheets.bitsOf(t)) return found(KIND);
        if (!sheets.hasRow(s, from, n) || !sheets.hasRow(t, to, n)) return found(BEYOND);
        sheets.bring(s, from, t, to, n);
        return n;
    }

    public int load(int s) {
        if (!isSheet(s)) return found(BEYOND);
        if (sheets.isMissing(s)) return found(MISSING);
        int most = Math.min(sheets.sizeOf(s), people.number());
        for (int i = 0; i < most; i++) {
            int errand = sheets.numberAt(s, i);
            if (!isPlace(errand)) return i;
            people.setErrand(i, errand);
        }
        return most;
    }

    public int judge(int s) {
        if (!isSheet(s)) return found(BEYOND);
        if (sheets.isMissing(s)) return found(MISSING);
        trial.become(people);
        for (int i = 0; i < sheets.sizeOf(s); i++) {
            trial.takeSteps(1);
            if (!trial.has(0) || trial.placeOf(0) != sheets.numberAt(s, i)) return 1 + i;
        }
        return 0;
    }

    // ---- images

    public int image() {
        keptRoads.become(roads);
        keptPeople.become(people);
        System.arraycopy(spots, 0, keptSpots, 0, SPOTS);
        keptDraw = draw;
        isKept = true;
        return 1;
    }

    public int undo() {
        if (!isKept) return found(NONE);
        roads.become(keptRoads);
        people.become(keptPeople);
        System.arraycopy(keptSpots, 0, spots, 0, SPOTS);
        draw = keptDraw;
        return people.clock();
    }

    public int tear() {
        int before = isKept ? 1 : 0;
        isKept = false;
        return before;
    }

    public int count(int what) {
        switch (what) {
            case 0: return people.clock();
            case 1: return people.number();
            case 2: return Integer.bitCount(people.lesserMates());
            case 3: return roads.lengthOfAll();
            case 4: return people.ropeOfAll();
            case 5: return tape.size();
            case 6: return draw;
            case 7: return fullSpots();
            default: return found(BEYOND);
        }
    }

    private int fullSpots() {
        int full = 0;
        for (int spot = 0; spot < SPOTS; spot++) {
            if (spots[spot] != NOBODY) full++;
        }
        return full;
    }

    public int status(int which) {
        if (which >= 0 && which < FINDINGS) return tallies[which];
        if (which != -1) return found(BEYOND);
        int all = 0;
        for (int i = 0; i < FINDINGS; i++) all += tallies[i];
        return all;
    }

    // The answer of an act that finds this, which status() counts.
    private int found(int finding) {
        if (finding >= 0 && finding < FINDINGS) tallies[finding]++;
        return LOW - finding;
    }

    private static boolean isPlace(int place) {
        return place >= 0 && place < PLACES;
    }

    private static boolean isSpot(int spot) {
        return spot >= 0 && spot < SPOTS;
    }

    private static boolean isSheet(int s) {
        return s >= 0 && s < SHEETS;
    }

    private static boolean isKind(int kind) {
        return kind >= 0 && kind < KINDS;
    }

    private static boolean isIn(int person, int set) {
        return (set >> person & 1) != 0;
    }

    // ---- kinds

    private static int kindAbove(int kind) {
        switch (kind) {
            case STOUT: return PERSON;
            case RUNNER: return PERSON;
            case SAILOR: return PERSON;
            case DANCER: return RUNNER;
            case THIEF: return DANCER;
            case ANCHOR: return STOUT;
            default: return NO_KIND;
        }
    }

    private static boolean isUnder(int kind, int above) {
        int climbed = kind;
        for (int level = 0; level < KINDS; level++) {
            if (climbed == above) return true;
            climbed = kindAbove(climbed);
        }
        return false;
    }

    private static int pullsAs(int kind, int strength, int clock) {
        int asStout = strength + 5;
        int asRunner = strength > 0 ? strength - 1 : 0;
        int asDancer = (clock & 1) == 0 ? asRunner + 2 : asRunner;
        switch (kind) {
            case STOUT: return asStout;
            case RUNNER: return asRunner;
            case DANCER: return asDancer;
            case THIEF: return asDancer / 2;
            case ANCHOR: return asStout * 2;
            default: return strength;
        }
    }

    private static int goesOf(int kind) {
        switch (kind) {
            case RUNNER: return 2;
            case DANCER: return 2;
            case THIEF: return 3;
            case ANCHOR: return 0;
            default: return 1;
        }
    }

    private static int slackOf(int kind) {
        return kind == SAILOR ? 3 : 0;
    }

    /** The WAYS, and what follows from them, reckoned anew whenever one becomes another. */
    static final class Roads {
        private final int[] lengths = new int[PLACES * PLACES];
        private final int[] distances = new int[PLACES * PLACES];
        // For a place and a goal: the place beside on a shortest way there.
        private final int[] nexts = new int[PLACES * PLACES];
        // For a place and a goal: the place beside that is nearest to it.
        private final int[] nearests = new int[PLACES * PLACES];

        Roads() {
            for (int a = 0; a < PLACES; a++) {
                for (int b = 0; b < PLACES; b++) {
                    if (Math.abs(a - b) == 1) lengths[a * PLACES + b] = 1;
                }
            }
            survey();
        }

        void become(Roads other) {
            System.arraycopy(other.lengths, 0, lengths, 0, PLACES * PLACES);
            System.arraycopy(other.distances, 0, distances, 0, PLACES * PLACES);
            System.arraycopy(other.nexts, 0, nexts, 0, PLACES * PLACES);
            System.arraycopy(other.nearests, 0, nearests, 0, PLACES * PLACES);
        }

        int lengthOf(int a, int b) {
            return isPlace(a) && isPlace(b) ? lengths[a * PLACES + b] : 0;
        }

        int distance(int a, int b) {
            return isPlace(a) && isPlace(b) ? distances[a * PLACES + b] : FAR;
        }

        // The place itself, if one is at the goal, or the goal is FAR.
        int nextPlace(int place, int goal) {
            return isPlace(place) && isPlace(goal) ? nexts[place * PLACES + goal] : place;
        }

        // The place itself, if nothing lies beside it.
        int nearestBeside(int place, int goal) {
            return isPlace(place) && isPlace(goal) ? nearests[place * PLACES + goal] : place;
        }

        int lengthOfAll() {
            int sum = 0;
            for (int a = 0; a < PLACES; a++) {
                for (int b = 0; b < a; b++) sum += lengthOf(a, b);
            }
            return sum;
        }

        void lay(int a, int b, int v) {
            if (!isPlace(a) || !isPlace(b)) return;
            lengths[a * PLACES + b] = v;
            lengths[b * PLACES + a] = v;
            survey();
        }

        private void survey() {
            measure();
            for (int a = 0; a < PLACES; a++) {
                for (int b = 0; b < PLACES; b++) {
                    nexts[a * PLACES + b] = searchNext(a, b);
                    nearests[a * PLACES + b] = searchNearest(a, b);
                }
            }
        }

        private void measure() {
            for (int a = 0; a < PLACES; a++) {
                for (int b = 0; b < PLACES; b++) {
                    int length = lengths[a * PLACES + b];
                    distances[a * PLACES + b] = a == b ? 0 : length == 0 ? FAR : length;
                }
            }
            for (int by = 0; by < PLACES; by++) {
                for (int a = 0; a < PLACES; a++) {
                    int toBy = distances[a * PLACES + by];
                    for (int b = 0; b < PLACES; b++) {
                        int round = toBy + distances[by * PLACES + b];
                        if (round < distances[a * PLACES + b]) distances[a * PLACES + b] = round;
                    }
                }
            }
        }

        private int searchNext(int place, int goal) {
            if (place == goal || distance(place, goal) == FAR) return place;
            for (int beside = 0; beside < PLACES; beside++) {
                int length = lengthOf(place, beside);
                if (length > 0 && distance(place, goal) == length + distance(beside, goal)) return beside;
            }
            return place;
        }

        private int searchNearest(int place, int goal) {
            int nearest = NOBODY;
            for (int beside = 0; beside < PLACES; beside++) {
                boolean isBeside = lengthOf(place, beside) > 0;
                if (isBeside && (nearest == NOBODY || distance(beside, goal) < distance(nearest, goal))) {
                    nearest = beside;
                }
            }
            return nearest == NOBODY ? place : nearest;
        }
    }

    /** PEOPLE, their ROPES and CLOCK, and the STEPS that they take. */
    static final class People {
        private final Roads roads;
        private int number = 0;
        private int clock = 0;
        private final int[] kinds = new int[MOST_PEOPLE];
        private final int[] places = new int[MOST_PEOPLE];
        private final int[] errands = new int[MOST_PEOPLE];
        private final int[] mates = new int[MOST_PEOPLE];
        private final int[] strengths = new int[MOST_PEOPLE];
        private final int[] ropes = new int[MOST_PEOPLE];
        private final int[] holds = new int[MOST_PEOPLE];
        private final int[] tugs = new int[MOST_PEOPLE];

        // Of the latest STEP alone.
        private final int[] stepTugs = new int[MOST_PEOPLE];
        private int stepMoves = 0;
        private int stepHeld = NOBODY;

        People(Roads roads) {
            this.roads = roads;
        }

        void become(People other) {
            number = other.number;
            clock = other.clock;
            System.arraycopy(other.kinds, 0, kinds, 0, MOST_PEOPLE);
            System.arraycopy(other.places, 0, places, 0, MOST_PEOPLE);
            System.arraycopy(other.errands, 0, errands, 0, MOST_PEOPLE);
            System.arraycopy(other.mates, 0, mates, 0, MOST_PEOPLE);
            System.arraycopy(other.strengths, 0, strengths, 0, MOST_PEOPLE);
            System.arraycopy(other.ropes, 0, ropes, 0, MOST_PEOPLE);
            System.arraycopy(other.holds, 0, holds, 0, MOST_PEOPLE);
            System.arraycopy(other.tugs, 0, tugs, 0, MOST_PEOPLE);
        }

        int number() {
            return number;
        }

        int clock() {
            return clock;
        }

        boolean has(int p) {
            return p >= 0 && p < number && p < MOST_PEOPLE;
        }

        int everybody() {
            return (1 << number) - 1;
        }

        // The number of the new one, or NOBODY if there is no room.
        int add(int kind, int place) {
            if (number < 0 || number >= MOST_PEOPLE) return NOBODY;
            int p = number;
            kinds[p] = kind;
            places[p] = place;
            errands[p] = place;
            mates[p] = NOBODY;
            strengths[p] = FIRST_STRENGTH;
            ropes[p] = 0;
            holds[p] = 0;
            tugs[p] = 0;
            number = p + 1;
            return p;
        }

        int kindOf(int p) {
            return has(p) ? kinds[p] : NO_KIND;
        }

        int placeOf(int p) {
            return has(p) ? places[p] : NOBODY;
        }

        int errandOf(int p) {
            return has(p) ? errands[p] : NOBODY;
        }

        int mateOf(int p) {
            return has(p) ? mates[p] : NOBODY;
        }

        int strengthOf(int p) {
            return has(p) ? strengths[p] : 0;
        }

        int ropeOf(int p) {
            return has(p) ? ropes[p] : 0;
        }

        int holdsOf(int p) {
            return has(p) ? holds[p] : 0;
        }

        int tugsOf(int p) {
            return has(p) ? tugs[p] : 0;
        }

        int pullsOf(int p) {
            return has(p) ? pullsAs(kinds[p], strengths[p], clock) : 0;
        }

        boolean isTied(int p) {
            return has(p) && has(mates[p]);
        }

        boolean isThere(int p) {
            return placeOf(p) == errandOf(p);
        }

        // Each of these four tells what it was.
        int setKind(int p, int v) {
            if (!has(p)) return NOBODY;
            int before = kinds[p];
            kinds[p] = v;
            return before;
        }

        int setPlace(int p, int v) {
            if (!has(p)) return NOBODY;
            int before = places[p];
            places[p] = v;
            return before;
        }

        int setErrand(int p, int v) {
            if (!has(p)) return NOBODY;
            int before = errands[p];
            errands[p] = v;
            return before;
        }

        int setStrength(int p, int v) {
            if (!has(p)) return NOBODY;
            int before = strengths[p];
            strengths[p] = v;
            return before;
        }

        void join(int a, int b, int length) {
            if (!has(a) || !has(b) || a == b) return;
            part(a);
            part(b);
            mates[a] = b;
            mates[b] = a;
            ropes[a] = length;
            ropes[b] = length;
        }

        void part(int p) {
            int mate = mateOf(p);
            if (!has(p) || !has(mate)) return;
            mates[p] = NOBODY;
            mates[mate] = NOBODY;
        }

        // How far two MATES can be from one another.
        private int reach(int p) {
            if (!has(p) || !has(mates[p])) return FAR;
            return ropes[p] + slackOf(kinds[p]) + slackOf(kinds[mates[p]]);
        }

        boolean ropeLets(int p, int place) {
            if (!has(p) || !has(mates[p])) return true;
            return roads.distance(place, places[mates[p]]) <= reach(p);
        }

        int apartness(int a, int b) {
            int now = roads.distance(placeOf(a), placeOf(b));
            int then = roads.distance(errandOf(a), errandOf(b));
            return Math.max(now, then);
        }

        int thereSet() {
            int set = 0;
            for (int p = 0; p < number; p++) {
                if (isThere(p)) set |= 1 << p;
            }
            return set;
        }

        int tightSet() {
            int set = 0;
            for (int p = 0; p < number; p++) {
                if (isTied(p) && roads.distance(placeOf(p), placeOf(mateOf(p))) == reach(p)) set |= 1 << p;
            }
            return set;
        }

        int lesserMates() {
            int set = 0;
            for (int p = 0; p < number; p++) {
                if (mateOf(p) > p) set |= 1 << p;
            }
            return set;
        }

        int ropeOfAll() {
            int sum = 0;
            for (int p = 0; p < number; p++) {
                if (mateOf(p) > p) sum += ropeOf(p);
            }
            return sum;
        }

        int holdsOfAll() {
            int sum = 0;
            for (int p = 0; p < number; p++) sum += holdsOf(p);
            return sum;
        }

        int tugsOfAll() {
            int sum = 0;
            for (int p = 0; p < number; p++) sum += tugsOf(p);
            return sum;
        }

        int moves() {
            return stepMoves;
        }

        int firstHeld() {
            return stepHeld;
        }

        int tugsInStep(int p) {
            return has(p) ? stepTugs[p] : 0;
        }

        void takeSteps(int n) {
            for (int i = 0; i < n; i++) {
                Arrays.fill(stepTugs, 0);
                stepMoves = 0;
                stepHeld = NOBODY;
                for (int p = 0; p < number; p++) walk(p);
                clock = Math.min(clock + 1, LAST_CLOCK);
            }
        }

        // NEVER, if not within the STEPS that are foreseen.
        int stepsUntilThere(int p) {
            for (int steps = 0; steps < FORESEEN; steps++) {
                if (isThere(p)) return steps;
                takeSteps(1);
            }
            return isThere(p) ? FORESEEN : NEVER;
        }

        private void walk(int p) {
            int goes = goesOf(kindOf(p));
            for (int i = 0; i < goes; i++) {
                int wanted = roads.nextPlace(placeOf(p), errandOf(p));
                if (wanted == placeOf(p)) return;
                if (ropeLets(p, wanted)) {
                    setPlace(p, wanted);
                    stepMoves++;
                } else if (!tug(p, wanted)) {
                    beHeld(p);
                    return;
                }
            }
        }

        // Whether one could draw the MATE along to where one wants to be.
        private boolean tug(int p, int wanted) {
            int mate = mateOf(p);
            if (!has(mate) || pullsOf(p) <= pullsOf(mate)) return false;
            int drawnFrom = placeOf(mate);
            int drawnTo = roads.nearestBeside(drawnFrom, wanted);
            if (roads.distance(drawnTo, wanted) >= roads.distance(drawnFrom, wanted)) return false;
            if (roads.distance(wanted, drawnTo) > reach(p)) return false;
            setPlace(p, wanted);
            setPlace(mate, drawnTo);
            stepMoves++;
            stepTugs[mate]++;
            tugs[mate] = Math.min(tugs[mate] + 1, LAST_TALLY);
            return true;
        }

        private void beHeld(int p) {
            if (!has(p)) return;
            if (stepHeld == NOBODY) stepHeld = p;
            holds[p] = Math.min(holds[p] + 1, LAST_TALLY);
        }
    }

    /** For each set of PEOPLE: the least sum of ropes that ties them by twos (one is free, if they are odd). */
    static final class Pairings {
        private final int[] leasts = new int[SETS];
        private final int[] choices = new int[SETS];
        private final int[] gaps = new int[MOST_PEOPLE * MOST_PEOPLE];
        private int number = 0;

        void reckon(People people) {
            number = Math.min(people.number(), MOST_PEOPLE);
            for (int a = 0; a < number; a++) {
                for (int b = 0; b < number; b++) gaps[a * MOST_PEOPLE + b] = people.apartness(a, b);
            }
            leasts[0] = 0;
            choices[0] = 1;
            for (int set = 1; set <= everybody(); set++) reckonSet(set);
        }

        int leastOfAll() {
            return leastOf(everybody());
        }

        int numberOfBest() {
            return choicesOf(everybody());
        }

        // NOBODY, if one is free.
        int partnerOf(int person) {
            int set = everybody();
            for (int first = 0; first < number; first++) {
                if (isIn(first, set)) {
                    int other = firstPartner(set, first);
                    if (first == person) return other;
                    if (other == person) return first;
                    set = without(set, first, other);
                }
            }
            return NOBODY;
        }

        private int everybody() {
            return (1 << number) - 1;
        }

        private int leastOf(int set) {
            return set >= 0 && set < SETS ? leasts[set] : 0;
        }

        private int choicesOf(int set) {
            return set >= 0 && set < SETS ? choices[set] : 0;
        }

        // The first of the set is free, or tied to each of the others: what is left is a lesser set.
        private void reckonSet(int set) {
            if (set < 0 || set >= SETS) return;
            int first = firstOf(set);
            int best = 0;
            int many = 0;
            for (int other = NOBODY; other < number; other++) {
                if (canPair(set, first, other)) {
                    int sum = sumWith(set, first, other);
                    int manyLeft = choicesOf(without(set, first, other));
                    if (many == 0 || sum < best) {
                        best = sum;
                        many = manyLeft;
                    } else if (sum == best) {
                        many += manyLeft;
                    }
                }
            }
            leasts[set] = best;
            choices[set] = many;
        }

        private int firstPartner(int set, int first) {
            for (int other = NOBODY; other < number; other++) {
                if (canPair(set, first, other) && sumWith(set, first, other) == leastOf(set)) return other;
            }
            return NOBODY;
        }

        private int firstOf(int set) {
            for (int p = 0; p < number; p++) {
                if (isIn(p, set)) return p;
            }
            return NOBODY;
        }

        // With NOBODY: whether one of the set can be free.
        private boolean canPair(int set, int first, int other) {
            if (other == NOBODY) return (Integer.bitCount(set) & 1) != 0;
            return other != first && isIn(other, set);
        }

        private int sumWith(int set, int first, int other) {
            return gapOf(first, other) + leastOf(without(set, first, other));
        }

        private int gapOf(int a, int b) {
            if (a < 0 || a >= MOST_PEOPLE || b < 0 || b >= MOST_PEOPLE) return 0;
            return gaps[a * MOST_PEOPLE + b];
        }

        private static int without(int set, int first, int other) {
            int rest = set & ~(1 << first);
            return other == NOBODY ? rest : rest & ~(1 << other);
        }
    }

    /** THE TAPE. */
    static final class Tape {
        private final int[] bytes = new int[MOST_BYTES];
        private int size = 0;

        int size() {
            return size;
        }

        void clear() {
            size = 0;
        }

        // The n lowest bytes of a number, the highest of these first.
        void append(int number, int n) {
            for (int i = n - 1; i >= 0; i--) {
                if (size < 0 || size >= MOST_BYTES) return;
                bytes[size] = number >> (8 * i) & 255;
                size++;
            }
        }

        // -1 behind the end.
        int byteAt(int place) {
            return place >= 0 && place < size && place < MOST_BYTES ? bytes[place] : -1;
        }
    }

    /** Reads THE TAPE as a TEXT: its ITEMS, or the first FAULT. */
    static final class Reader {
        static final int NO_FAULT = -1;
        // What stands at the head of an ITEM that tells no KIND.
        static final int WAY = 7;
        static final int TIE = 8;
        private static final int NO_HEAD = -1;

        private static final int END = 0;
        private static final int WORD = 1;
        private static final int NUMBER = 2;
        private static final int SIGN = 3;
        private static final int OTHER = 4;

        private static final int LARGEST = 999;
        private static final int PARTS = 4;

        private final Tape tape;
        // The TOKEN that stands next: its sort, where it begins, where it ends, what a NUMBER tells.
        private int sort = END;
        private int begin = 0;
        private int end = 0;
        private int number = 0;

        private final int[] parts = new int[MOST_BYTES * PARTS];
        private int items = 0;
        private int peopleThen = 0;

        Reader(Tape tape) {
            this.tape = tape;
        }

        int items() {
            return items;
        }

        // Part 0 is the head: a KIND (then AT, ERRAND, STRENGTH), WAY or TIE (then its three NUMBERS).
        int part(int item, int i) {
            if (item < 0 || item >= MOST_BYTES || i < 0 || i >= PARTS) return 0;
            return parts[item * PARTS + i];
        }

        int faultOf(int peopleBefore) {
            items = 0;
            peopleThen = peopleBefore;
            end = 0;
            readToken();
            for (int i = 0; i < MOST_BYTES; i++) {
                if (!takeItem()) return begin;
                if (sort == END) return NO_FAULT;
                if (sort != SIGN) return begin;
                readToken();
            }
            return begin;
        }

        // Each take tells whether what it names stood there; if not, the TOKEN that stands next is at FAULT.
        private boolean takeItem() {
            int head = headOf();
            if (head == NO_HEAD || isKind(head) && peopleThen >= MOST_PEOPLE) return false;
            keep(0, head);
            readToken();
            boolean taken = isKind(head) ? takePerson() : takeThree(head);
            if (taken) items++;
            return taken;
        }

        private int headOf() {
            if (isWord("person")) return PERSON;
            if (isWord("stout")) return STOUT;
            if (isWord("runner")) return RUNNER;
            if (isWord("sailor")) return SAILOR;
            if (isWord("dancer")) return DANCER;
            if (isWord("thief")) return THIEF;
            if (isWord("anchor")) return ANCHOR;
            if (isWord("way")) return WAY;
            if (isWord("tie")) return TIE;
            return NO_HEAD;
        }

        private boolean takePerson() {
            if (!takeOption("at", 1, PLACES - 1, 0)) return false;
            if (!takeOption("to", 2, PLACES - 1, part(items, 1))) return false;
            if (!takeOption("strength", 3, STRONGEST, FIRST_STRENGTH)) return false;
            peopleThen++;
            return true;
        }

        // A word and a NUMBER, or neither.
        private boolean takeOption(String word, int i, int most, int without) {
            keep(i, without);
            if (!isWord(word)) return true;
            readToken();
            return takeNumber(i, most);
        }

        private boolean takeThree(int head) {
            int mostOfTwo = head == WAY ? PLACES - 1 : peopleThen - 1;
            int mostOfThird = head == WAY ? LONGEST_WAY : LONGEST_ROPE;
            if (!takeNumber(1, mostOfTwo)) return false;
            if (sort == NUMBER && number == part(items, 1)) return false;
            return takeNumber(2, mostOfTwo) && takeNumber(3, mostOfThird);
        }

        private boolean takeNumber(int i, int most) {
            if (sort != NUMBER || number > most) return false;
            keep(i, number);
            readToken();
            return true;
        }

        private void keep(int i, int v) {
            if (items < 0 || items >= MOST_BYTES || i < 0 || i >= PARTS) return;
            parts[items * PARTS + i] = v;
        }

        private boolean isWord(String word) {
            if (sort != WORD || end - begin != word.length()) return false;
            for (int i = 0; i < word.length(); i++) {
                if (tape.byteAt(begin + i) != word.charAt(i)) return false;
            }
            return true;
        }

        private void readToken() {
            begin = end;
            while (begin < tape.size() && tape.byteAt(begin) == ' ') begin++;
            sort = sortOf(tape.byteAt(begin));
            number = 0;
            end = begin;
            boolean isRow = sort == WORD || sort == NUMBER;
            while (end < tape.size() && sortOf(tape.byteAt(end)) == sort && (isRow || end == begin)) {
                // One more than the LARGEST stands for all NUMBERS that are larger.
                if (sort == NUMBER) number = Math.min(number * 10 + tape.byteAt(end) - '0', LARGEST + 1);
                end++;
            }
        }

        private static int sortOf(int sign) {
            if (sign < 0) return END;
            if (sign >= 'a' && sign <= 'z') return WORD;
            if (sign >= '0' && sign <= '9') return NUMBER;
            return sign == ';' ? SIGN : OTHER;
        }
    }

    /** SHEETS; one of 0 bits is MISSING. */
    static final class Sheets {
        private final int[] bits = new int[SHEETS];
        private final int[] sizes = new int[SHEETS];
        private final int[] numbers = new int[SHEETS * MOST_NUMBERS];

        boolean isMissing(int s) {
            return bitsOf(s) == 0;
        }

        int bitsOf(int s) {
            return isSheet(s) ? bits[s] : 0;
        }

        int sizeOf(int s) {
            return isSheet(s) ? sizes[s] : 0;
        }

        int numberAt(int s, int i) {
            return hasRow(s, i, 1) ? numbers[s * MOST_NUMBERS + i] : 0;
        }

        boolean hasRow(int s, int from, int n) {
            return from >= 0 && n >= 0 && from <= sizeOf(s) && n <= sizeOf(s) - from;
        }

        void lay(int s, int newBits, int n) {
            if (!isSheet(s) || n < 0 || n > MOST_NUMBERS) return;
            bits[s] = newBits;
            sizes[s] = newBits == 0 ? 0 : n;
            for (int i = 0; i < n; i++) numbers[s * MOST_NUMBERS + i] = 0;
        }

        void put(int s, int i, int v) {
            if (hasRow(s, i, 1)) numbers[s * MOST_NUMBERS + i] = lowestBits(v, bitsOf(s));
        }

        void bring(int s, int from, int t, int to, int n) {
            if (!hasRow(s, from, n) || !hasRow(t, to, n)) return;
            System.arraycopy(numbers, s * MOST_NUMBERS + from, numbers, t * MOST_NUMBERS + to, n);
        }

        private static int lowestBits(int v, int bits) {
            if (bits == 8) return (byte) v;
            if (bits == 16) return (short) v;
            return v;
        }
    }
}
