/** The edges that the document names for places, people, ropes and steps: promises 1 to 13. */
public final class CountryEdgesTest extends Edges {
    public static void main(String[] args) {
        begin("CountryEdgesTest");
        newObject();
        lastCall();
        way();
        far();
        person();
        of();
        pulls();
        tallies();
        change();
        changeByRope();
        tie();
        reach();
        cut();
        rope();
        go();
        wayToTake();
        ropeInTheWay();
        tugs();
        tugGoesWhere();
        manyMoves();
        orderInAStep();
        now();
        next();
        may();
        end(1, 13);
    }

    private static void newObject() {
        edge(1, "All as at first; no PEOPLE");
        int[] counts = {0, 0, 0, 9, 0, 0, 1, 0};
        for (int i = 0; i < counts.length; i++) due("count(" + i + ")", x.count(i), counts[i]);
        for (int i = 0; i < 5; i++) due("now(" + i + ")", x.now(i), 0);
        for (int i = -1; i < 7; i++) due("status(" + i + ")", x.status(i), 0);
        for (int p = -1; p < 9; p++) due("of(" + p + ", 0)", x.of(p, 0), BEYOND);
        edge(1, "a WAY of 1 between each PLACE and the next one by numbers, no others");
        for (int a = 0; a < 10; a++) {
            for (int b = a + 1; b < 10; b++) due("way(" + a + ", " + b + ", 5)", x.way(a, b, 5), b == a + 1 ? 1 : 0);
        }
        edge(1, "SPOTS hold nothing at first");
        for (int spot = 0; spot < 10; spot++) due("as(" + spot + ", 0)", x.as(spot, 0), MISSING);
        edge(1, "SHEETS are MISSING at first");
        for (int s = 0; s < 4; s++) due("write(" + s + ", 0, 0)", x.write(s, 0, 0), MISSING);
        edge(1, "THE TAPE is empty");
        due("wipe()", x.wipe(), 0);
        due("text()", x.text(), -1);
        edge(1, "no image is kept");
        due("undo()", x.undo(), NONE);
        due("tear()", x.tear(), 0);
        edge(1, "z is 1 at first");
        due("seed(9)", x.seed(9), 1);
        edge(1, "all as at first, whatever another object is like");
        StrangerRopes other = new StrangerRopes();
        other.person(0, 0);
        other.way(0, 9, 1);
        other.seed(5);
        other.feed(0, 4);
        other.sheet(0, 8, 1);
        other.image();
        other.undo();
        other.go(3);
        int[] still = {0, 0, 0, 9, 0, 0, 1, 0};
        for (int i = 0; i < still.length; i++) due("count(" + i + ")", x.count(i), still[i]);
        due("undo()", x.undo(), NONE);
        due("load(0)", x.load(0), MISSING);
    }

    private static void lastCall() {
        edge(1, "used for at most 512 calls");
        for (int i = 1; i <= 512; i++) due("call " + i + ", go(40)", x.go(40), 40 * i);
        edge(1, "used for at most 512 calls, each of 100 steps");
        for (int i = 1; i <= 511; i++) due("call " + i + ", days(10)", x.days(10), 0);
        due("call 512, count(0)", x.count(0), 51100);
        edge(1, "used for at most 512 calls, each of them refused");
        for (int i = 1; i <= 511; i++) due("call " + i + ", undo()", x.undo(), NONE);
        due("call 512, status(3)", x.status(3), 511);
    }

    private static void way() {
        edge(2, "v 0 to 9");
        due("way(0, 1, 0)", x.way(0, 1, 0), 1);
        due("way(0, 1, 9)", x.way(0, 1, 9), 0);
        due("way(0, 1, -1)", x.way(0, 1, -1), BEYOND);
        due("way(0, 1, 10)", x.way(0, 1, 10), BEYOND);
        due("way(0, 1, LEAST)", x.way(0, 1, LEAST), BEYOND);
        due("way(0, 1, MOST)", x.way(0, 1, MOST), BEYOND);
        due("way(0, 1, 1)", x.way(0, 1, 1), 9);
        edge(2, "PLACES 0 to 9");
        due("way(0, 9, 3)", x.way(0, 9, 3), 0);
        due("way(9, 0, 3)", x.way(9, 0, 3), 3);
        int[] others = {-1, 10, LEAST, MOST};
        for (int place : others) {
            due("way(" + place + ", 1, 2)", x.way(place, 1, 2), BEYOND);
            due("way(1, " + place + ", 2)", x.way(1, place, 2), BEYOND);
        }
        due("count(3)", x.count(3), 12);
        edge(2, "BEYOND: also one and the same");
        for (int p = 0; p < 10; p++) due("way(" + p + ", " + p + ", 1)", x.way(p, p, 1), BEYOND);
        due("way(3, 3, 0)", x.way(3, 3, 0), BEYOND);
        edge(2, "both ways alike");
        due("way(3, 7, 4)", x.way(3, 7, 4), 0);
        due("way(7, 3, 5)", x.way(7, 3, 5), 4);
        due("way(3, 7, 6)", x.way(3, 7, 6), 5);
        edge(2, "0 none");
        due("way(3, 4, 0)", x.way(3, 4, 0), 1);
        due("way(4, 3, 0)", x.way(4, 3, 0), 0);
        due("far(3, 4)", x.far(3, 4), 999);
        due("far(0, 3)", x.far(0, 3), 3);
        due("far(4, 9)", x.far(4, 9), 5);
    }

    private static void far() {
        edge(3, "0 of one to itself");
        for (int p = 0; p < 10; p++) due("far(" + p + ", " + p + ")", x.far(p, p), 0);
        apartFromAll(5);
        due("far(5, 5)", x.far(5, 5), 0);
        edge(3, "FAR, 999, if there is none");
        apartFromAll(5);
        for (int p = 0; p < 10; p++) {
            due("far(5, " + p + ")", x.far(5, p), p == 5 ? 0 : 999);
            due("far(" + p + ", 5)", x.far(p, 5), p == 5 ? 0 : 999);
        }
        due("far(4, 6)", x.far(4, 6), 999);
        due("far(0, 4)", x.far(0, 4), 4);
        edge(3, "the least sum of lengths, the greatest that there is");
        for (int p = 0; p < 9; p++) x.way(p, p + 1, 9);
        due("far(0, 9)", x.far(0, 9), 81);
        due("far(9, 0)", x.far(9, 0), 81);
        x.way(0, 9, 9);
        due("far(0, 9)", x.far(0, 9), 9);
        due("far(0, 8)", x.far(0, 8), 18);
        due("far(2, 7)", x.far(2, 7), 45);
        edge(3, "the least sum of lengths: round about or not");
        x.way(0, 2, 3);
        due("a WAY that is longer", x.far(0, 2), 2);
        x.way(0, 2, 2);
        due("a WAY that is as long", x.far(0, 2), 2);
        x.way(0, 2, 1);
        due("a WAY that is shorter", x.far(0, 2), 1);
        edge(3, "the least sum of lengths: by any PLACE");
        for (int by = 0; by < 10; by++) {
            x = new StrangerRopes();
            for (int p = 0; p < 9; p++) x.way(p, p + 1, 0);
            for (int p = 0; p < 10; p++) x.way(by, p, 4);
            due("far() by " + by, x.far((by + 1) % 10, (by + 2) % 10), 8);
        }
        edge(3, "BEYOND");
        int[] others = {-1, 10, LEAST, MOST};
        for (int place : others) {
            due("far(" + place + ", 0)", x.far(place, 0), BEYOND);
            due("far(0, " + place + ")", x.far(0, place), BEYOND);
            due("far(" + place + ", the same)", x.far(place, place), BEYOND);
        }
        due("far(0, 9)", x.far(0, 9), 9);
    }

    private static void person() {
        edge(4, "KINDS 0 to 6");
        due("person(-1, 0)", x.person(-1, 0), BEYOND);
        due("person(7, 0)", x.person(7, 0), BEYOND);
        due("person(LEAST, 0)", x.person(LEAST, 0), BEYOND);
        due("person(MOST, 0)", x.person(MOST, 0), BEYOND);
        for (int kind = 0; kind < 7; kind++) due("person(" + kind + ", 0)", x.person(kind, 0), kind);
        dueOf(0, 0, 1, 2, 3, 4, 5, 6);
        edge(4, "PLACES 0 to 9");
        due("person(0, -1)", x.person(0, -1), BEYOND);
        due("person(0, 10)", x.person(0, 10), BEYOND);
        due("person(0, LEAST)", x.person(0, LEAST), BEYOND);
        due("person(0, MOST)", x.person(0, MOST), BEYOND);
        due("person(0, 0)", x.person(0, 0), 0);
        due("person(0, 9)", x.person(0, 9), 1);
        dueOf(1, 0, 9);
        edge(4, "at most 8; FULL");
        for (int p = 0; p < 8; p++) due("person " + p, x.person(0, p), p);
        due("a 9th", x.person(0, 0), FULL);
        due("a 9th at another PLACE", x.person(6, 9), FULL);
        due("count(1)", x.count(1), 8);
        due("status(1)", x.status(1), 2);
        edge(4, "BEYOND, then FULL");
        for (int p = 0; p < 8; p++) x.person(0, 0);
        due("person(7, 0)", x.person(7, 0), BEYOND);
        due("person(0, 10)", x.person(0, 10), BEYOND);
        due("person(6, 9)", x.person(6, 9), FULL);
        edge(4, "its own ERRAND, no MATE, STRENGTH 3 at first");
        x.person(5, 7);
        int[] first = {5, 7, 7, -1, 3, 3, 1, 0, 0};
        for (int i = 0; i < first.length; i++) due("of(0, " + i + ")", x.of(0, i), first[i]);
        edge(4, "at first, though undo() took another of that number away");
        x.image();
        one(3, 2, 9, 9);
        one(0, 9, 0, 0);
        x.tie(0, 1, 3);
        x.go(3);
        x.undo();
        due("person(5, 7)", x.person(5, 7), 0);
        for (int i = 0; i < first.length; i++) due("of(0, " + i + ")", x.of(0, i), first[i]);
    }

    private static void of() {
        edge(5, "what 0 to 8");
        x.person(2, 6);
        int[] wants = {2, 6, 6, -1, 3, 2, 2, 0, 0};
        for (int what = 0; what < 9; what++) due("of(0, " + what + ")", x.of(0, what), wants[what]);
        int[] others = {-1, 9, LEAST, MOST};
        for (int what : others) due("of(0, " + what + ")", x.of(0, what), BEYOND);
        edge(5, "BEYOND: no such PERSON");
        due("of(0, 0) of nobody", x.of(0, 0), BEYOND);
        for (int p = 0; p < 8; p++) {
            due("of(" + p + ", 1) before", x.of(p, 1), BEYOND);
            x.person(0, p);
            due("of(" + p + ", 1)", x.of(p, 1), p);
        }
        int[] nobodies = {-1, 8, LEAST, MOST};
        for (int p : nobodies) due("of(" + p + ", 1)", x.of(p, 1), BEYOND);
        edge(5, "a MATE or none (-1)");
        people(0, 0);
        dueOf(3, -1, -1);
        x.tie(0, 1, 0);
        dueOf(3, 1, 0);
    }

    private static void pulls() {
        edge(5, "PULLS, STRENGTH 0: 0 at least");
        everyKind();
        duePulls(0, 0, 5, 0, 2, 1, 0, 10);
        edge(5, "PULLS, STRENGTH 1: less 1 is just 0");
        everyKind();
        duePulls(1, 1, 6, 0, 2, 1, 1, 12);
        edge(5, "PULLS, STRENGTH 9");
        everyKind();
        duePulls(9, 9, 14, 8, 10, 5, 9, 28);
        edge(5, "PULLS: Quotients are cut");
        everyKind();
        duePulls(2, 2, 7, 1, 3, 1, 2, 14);
        edge(5, "PULLS of a DANCER: and 2 if CLOCK is even");
        everyKind();
        int[] clocks = {1, 2, 3};
        for (int clock : clocks) {
            due("go(1)", x.go(1), clock);
            int more = clock == 2 ? 2 : 0;
            duePulls(0, 0, 5, 0, more, more / 2, 0, 10);
            duePulls(2, 2, 7, 1, 1 + more, (1 + more) / 2, 2, 14);
            duePulls(9, 9, 14, 8, 8 + more, 4 + more / 2, 9, 28);
        }
        edge(5, "GOES");
        everyKind();
        dueOf(6, 1, 1, 2, 2, 3, 1, 0);
    }

    private static void everyKind() {
        for (int kind = 0; kind < 7; kind++) x.person(kind, 0);
    }

    private static void duePulls(int strength, int... wants) {
        for (int p = 0; p < 7; p++) x.change(p, 4, strength);
        dueOf(5, wants);
    }

    private static void tallies() {
        edge(5, "HOLDS: 9999 at most");
        people(0, 0);
        x.change(0, 2, 1);
        x.tie(0, 1, 0);
        for (int i = 0; i < 249; i++) x.go(40);
        x.go(38);
        dueOf(7, 9998, 0);
        x.go(1);
        dueOf(7, 9999, 0);
        x.go(1);
        dueOf(7, 9999, 0);
        x.go(40);
        dueOf(7, 9999, 0);
        due("now(3)", x.now(3), 9999);
        edge(5, "TUGS: 9999 at most");
        one(1, 0, 0, 3);
        people(0);
        x.tie(0, 1, 0);
        for (int i = 0; i < 400; i++) x.days(10);
        dueOf(8, 0, 9999);
        x.change(0, 2, x.of(0, 1) == 0 ? 1 : 0);
        x.go(1);
        dueOf(8, 0, 9999);
        due("now(4)", x.now(4), 9999);
        edge(5, "HOLDS, TUGS: 9999 at most, each: two of them are held");
        people(0, 0, 0, 0);
        x.change(0, 2, 1);
        x.change(2, 2, 1);
        x.tie(0, 1, 0);
        x.tie(2, 3, 0);
        for (int i = 0; i < 260; i++) x.go(40);
        dueOf(7, 9999, 0, 9999, 0);
        due("now(3)", x.now(3), 19998);
    }

    private static void change() {
        edge(6, "v of KIND 0 to 6");
        people(2);
        due("change(0, 0, 6)", x.change(0, 0, 6), 0);
        due("change(0, 0, 7)", x.change(0, 0, 7), BEYOND);
        due("change(0, 0, -1)", x.change(0, 0, -1), BEYOND);
        due("change(0, 0, 0)", x.change(0, 0, 0), 6);
        edge(6, "v of AT 0 to 9");
        people(2);
        due("change(0, 1, 9)", x.change(0, 1, 9), 2);
        due("change(0, 1, 10)", x.change(0, 1, 10), BEYOND);
        due("change(0, 1, -1)", x.change(0, 1, -1), BEYOND);
        due("change(0, 1, 0)", x.change(0, 1, 0), 9);
        due("ERRAND as it was", x.of(0, 2), 2);
        edge(6, "v of ERRAND 0 to 9");
        people(2);
        due("change(0, 2, 9)", x.change(0, 2, 9), 2);
        due("change(0, 2, 10)", x.change(0, 2, 10), BEYOND);
        due("change(0, 2, -1)", x.change(0, 2, -1), BEYOND);
        due("change(0, 2, 0)", x.change(0, 2, 0), 9);
        due("AT as it was", x.of(0, 1), 2);
        edge(6, "v of STRENGTH 0 to 9");
        people(2);
        due("change(0, 4, 9)", x.change(0, 4, 9), 3);
        due("change(0, 4, 10)", x.change(0, 4, 10), BEYOND);
        due("change(0, 4, -1)", x.change(0, 4, -1), BEYOND);
        due("change(0, 4, 0)", x.change(0, 4, 0), 9);
        edge(6, "BEYOND: numbers that are far off");
        people(2);
        int[] whats = {0, 1, 2, 4};
        for (int what : whats) {
            due("change(0, " + what + ", LEAST)", x.change(0, what, LEAST), BEYOND);
            due("change(0, " + what + ", MOST)", x.change(0, what, MOST), BEYOND);
        }
        edge(6, "KIND (what 0), AT (1), ERRAND (2), STRENGTH (4): no others");
        people(2);
        int[] others = {-1, 3, 5, 6, 7, 8, 9, LEAST, MOST};
        for (int what : others) due("change(0, " + what + ", 0)", x.change(0, what, 0), BEYOND);
        edge(6, "BEYOND: no such PERSON");
        due("change(0, 2, 0) of nobody", x.change(0, 2, 0), BEYOND);
        people(2);
        due("change(1, 2, 0)", x.change(1, 2, 0), BEYOND);
        due("change(-1, 2, 0)", x.change(-1, 2, 0), BEYOND);
        due("change(0, 2, 0)", x.change(0, 2, 0), 2);
    }

    private static void changeByRope() {
        edge(6, "STATE: AT, where the ROPE doesn't LET one be");
        people(4, 4);
        x.tie(0, 1, 2);
        due("change(0, 1, 6)", x.change(0, 1, 6), 4);
        due("change(0, 1, 7)", x.change(0, 1, 7), STATE);
        due("change(0, 1, 2)", x.change(0, 1, 2), 6);
        due("change(0, 1, 1)", x.change(0, 1, 1), STATE);
        dueOf(1, 2, 4);
        edge(6, "STATE, by a ROPE of 0");
        people(4, 4);
        x.tie(0, 1, 0);
        due("change(1, 1, 5)", x.change(1, 1, 5), STATE);
        due("change(1, 1, 4)", x.change(1, 1, 4), 4);
        edge(6, "STATE, where one is already, but may not be");
        people(0, 9);
        x.tie(0, 1, 1);
        due("change(0, 1, 0)", x.change(0, 1, 0), STATE);
        due("change(0, 1, 8)", x.change(0, 1, 8), 0);
        edge(6, "BEYOND, then STATE");
        people(0, 9);
        x.tie(0, 1, 1);
        due("change(0, 1, 10)", x.change(0, 1, 10), BEYOND);
        due("change(0, 1, 5)", x.change(0, 1, 5), STATE);
        edge(6, "STATE: AT alone");
        people(0, 0);
        x.change(0, 0, 5);
        x.tie(0, 1, 0);
        x.change(0, 1, 3);
        due("KIND, though the ROPE is too short then", x.change(0, 0, 0), 5);
        due("may(0, 3)", x.may(0, 3), 0);
        due("ERRAND that is out of reach", x.change(0, 2, 9), 0);
        due("STRENGTH", x.change(0, 4, 0), 3);
        edge(6, "PEOPLE without a MATE are free");
        people(0);
        x.way(4, 5, 0);
        due("change(0, 1, 9), which is FAR", x.change(0, 1, 9), 0);
        edge(6, "STATE, FAR by a ROPE of 998; not of 999");
        people(0, 0);
        x.way(4, 5, 0);
        x.tie(0, 1, 998);
        due("change(0, 1, 9)", x.change(0, 1, 9), STATE);
        x.tie(0, 1, 999);
        due("change(0, 1, 9)", x.change(0, 1, 9), 0);
    }

    private static void tie() {
        edge(7, "LENGTH 0 to 999");
        people(0, 0);
        due("tie(0, 1, 0)", x.tie(0, 1, 0), 1);
        due("rope(0)", x.rope(0), 0);
        due("tie(0, 1, 999)", x.tie(0, 1, 999), 1);
        due("tie(0, 1, -1)", x.tie(0, 1, -1), BEYOND);
        due("tie(0, 1, 1000)", x.tie(0, 1, 1000), BEYOND);
        due("tie(0, 1, LEAST)", x.tie(0, 1, LEAST), BEYOND);
        due("tie(0, 1, MOST)", x.tie(0, 1, MOST), BEYOND);
        due("rope(0)", x.rope(0), 999);
        edge(7, "BEYOND: also one and the same");
        people(0, 0, 0);
        x.tie(1, 2, 4);
        for (int p = 0; p < 3; p++) due("tie(" + p + ", " + p + ", 0)", x.tie(p, p, 0), BEYOND);
        dueOf(3, -1, 2, 1);
        edge(7, "BEYOND: no such PEOPLE");
        due("tie(0, 1, 0) of nobody", x.tie(0, 1, 0), BEYOND);
        people(0);
        due("tie(0, 1, 0) of one", x.tie(0, 1, 0), BEYOND);
        due("tie(1, 0, 0) of one", x.tie(1, 0, 0), BEYOND);
        people(0, 0, 0, 0, 0, 0, 0);
        due("tie(7, 0, 0)", x.tie(7, 0, 0), 1);
        int[] others = {-1, 8, LEAST, MOST};
        for (int p : others) {
            due("tie(" + p + ", 0, 0)", x.tie(p, 0, 0), BEYOND);
            due("tie(0, " + p + ", 0)", x.tie(0, p, 0), BEYOND);
        }
        due("of(0, 3)", x.of(0, 3), 7);
        edge(7, "MATES that they had have none then");
        people(0, 0, 0, 0);
        x.tie(0, 1, 1);
        x.tie(2, 3, 1);
        due("tie(1, 2, 5)", x.tie(1, 2, 5), 1);
        dueOf(3, -1, 2, 1, -1);
        due("rope(0)", x.rope(0), NONE);
        due("rope(3)", x.rope(3), NONE);
        due("count(2)", x.count(2), 1);
        due("count(4)", x.count(4), 5);
        edge(7, "MATES that they had: one another");
        people(0, 0);
        x.tie(0, 1, 1);
        due("tie(1, 0, 2)", x.tie(1, 0, 2), 1);
        dueOf(3, 1, 0);
        due("rope(0)", x.rope(0), 2);
        due("rope(1)", x.rope(1), 2);
    }

    private static void reach() {
        edge(7, "1 if the ROPE LETS them be where they are, else 0");
        people(0, 5);
        due("tie(0, 1, 4)", x.tie(0, 1, 4), 0);
        due("of(0, 3), though 0", x.of(0, 3), 1);
        due("tie(0, 1, 5)", x.tie(0, 1, 5), 1);
        due("tie(0, 1, 6)", x.tie(0, 1, 6), 1);
        edge(7, "where they are, not where their ERRANDS are");
        one(0, 0, 9, 3);
        one(0, 4, 0, 3);
        due("tie(0, 1, 3)", x.tie(0, 1, 3), 0);
        due("tie(0, 1, 4)", x.tie(0, 1, 4), 1);
        due("tie(1, 0, 3)", x.tie(1, 0, 3), 0);
        due("tie(1, 0, 4)", x.tie(1, 0, 4), 1);
        edge(7, "SLACK: 3 for a SAILOR, each one's");
        people(0, 9);
        x.change(0, 0, 5);
        due("tie(0, 1, 5)", x.tie(0, 1, 5), 0);
        due("tie(0, 1, 6)", x.tie(0, 1, 6), 1);
        x.change(1, 0, 5);
        due("tie(0, 1, 2)", x.tie(0, 1, 2), 0);
        due("tie(0, 1, 3)", x.tie(0, 1, 3), 1);
        x.change(0, 0, 0);
        due("tie(0, 1, 5)", x.tie(0, 1, 5), 0);
        due("tie(0, 1, 6)", x.tie(0, 1, 6), 1);
        edge(7, "SLACK: all others 0");
        int[] others = {0, 1, 2, 3, 4, 6};
        people(0, 1);
        for (int kind : others) {
            x.change(0, 0, kind);
            due("tie(0, 1, 0), kind " + kind, x.tie(0, 1, 0), 0);
            due("tie(0, 1, 1), kind " + kind, x.tie(0, 1, 1), 1);
        }
        edge(7, "DISTANCE FAR (999), LENGTH and SLACK of both or less");
        people(0, 9);
        x.way(4, 5, 0);
        due("tie(0, 1, 998)", x.tie(0, 1, 998), 0);
        due("tie(0, 1, 999)", x.tie(0, 1, 999), 1);
        x.change(0, 0, 5);
        due("tie(0, 1, 995)", x.tie(0, 1, 995), 0);
        due("tie(0, 1, 996)", x.tie(0, 1, 996), 1);
    }

    private static void cut() {
        edge(8, "who the MATE was");
        people(0, 0, 0);
        x.tie(0, 2, 4);
        due("cut(0)", x.cut(0), 2);
        dueOf(3, -1, -1, -1);
        x.tie(0, 2, 4);
        due("cut(2)", x.cut(2), 0);
        dueOf(3, -1, -1, -1);
        due("count(2)", x.count(2), 0);
        due("count(4)", x.count(4), 0);
        edge(8, "NONE");
        people(0, 0, 0);
        x.tie(0, 2, 4);
        due("cut(1)", x.cut(1), NONE);
        x.cut(0);
        due("cut(0)", x.cut(0), NONE);
        due("cut(2)", x.cut(2), NONE);
        edge(8, "BEYOND: no such PERSON");
        due("cut(0) of nobody", x.cut(0), BEYOND);
        people(0, 0);
        x.tie(0, 1, 4);
        int[] others = {-1, 2, LEAST, MOST};
        for (int p : others) due("cut(" + p + ")", x.cut(p), BEYOND);
        due("cut(1)", x.cut(1), 0);
    }

    private static void rope() {
        edge(9, "LENGTH 0 to 999");
        people(0, 0);
        x.tie(0, 1, 0);
        due("rope(0)", x.rope(0), 0);
        due("rope(1)", x.rope(1), 0);
        x.tie(0, 1, 999);
        due("rope(0)", x.rope(0), 999);
        due("rope(1)", x.rope(1), 999);
        edge(9, "LENGTH alone: SLACK is no part of it");
        people(0, 0);
        x.change(0, 0, 5);
        x.tie(0, 1, 7);
        due("rope(0)", x.rope(0), 7);
        edge(9, "NONE");
        people(0, 0, 0);
        due("rope(0)", x.rope(0), NONE);
        x.tie(0, 1, 7);
        due("rope(2)", x.rope(2), NONE);
        x.cut(1);
        due("rope(0)", x.rope(0), NONE);
        edge(9, "BEYOND: no such PERSON");
        due("rope(0) of nobody", x.rope(0), BEYOND);
        people(0, 0);
        x.tie(0, 1, 7);
        int[] others = {-1, 2, LEAST, MOST};
        for (int p : others) due("rope(" + p + ")", x.rope(p), BEYOND);
    }

    private static void go() {
        edge(10, "n STEPS (1 to 40)");
        due("go(0)", x.go(0), BEYOND);
        due("go(41)", x.go(41), BEYOND);
        due("go(-1)", x.go(-1), BEYOND);
        due("go(LEAST)", x.go(LEAST), BEYOND);
        due("go(MOST)", x.go(MOST), BEYOND);
        due("count(0)", x.count(0), 0);
        due("go(1)", x.go(1), 1);
        due("go(40)", x.go(40), 41);
        edge(10, "n STEPS, each one");
        one(0, 0, 9, 3);
        x.go(1);
        dueOf(1, 1);
        x.go(4);
        dueOf(1, 5);
        x.go(40);
        dueOf(1, 9);
        due("go(40)", x.go(40), 85);
        edge(10, "GOES: as many moves, as long as not there");
        for (int kind = 0; kind < 7; kind++) one(kind, 0, 5, 3);
        x.go(1);
        dueOf(1, 1, 1, 2, 2, 3, 1, 0);
        x.go(1);
        dueOf(1, 2, 2, 4, 4, 5, 2, 0);
        x.go(1);
        dueOf(1, 3, 3, 5, 5, 5, 3, 0);
        due("now(3)", x.now(3), 0);
    }

    private static void wayToTake() {
        edge(10, "a shortest way there, of several the least");
        x.way(5, 6, 0);
        x.way(4, 6, 1);
        x.way(5, 7, 1);
        one(0, 4, 7, 3);
        one(0, 7, 4, 3);
        x.go(1);
        dueOf(1, 5, 5);
        edge(10, "a shortest way there, the least not lying on one");
        x.way(5, 6, 0);
        x.way(4, 6, 1);
        x.way(5, 7, 1);
        x.way(4, 5, 2);
        one(0, 4, 7, 3);
        x.go(1);
        dueOf(1, 6);
        edge(10, "just the WAY's length more from here than from it: a WAY that is as long as the way round");
        x.way(4, 7, 3);
        one(0, 4, 7, 3);
        one(0, 7, 4, 3);
        x.go(1);
        dueOf(1, 5, 4);
        edge(10, "a WAY of any length is one move");
        x.way(0, 1, 9);
        one(0, 0, 1, 3);
        x.go(1);
        dueOf(1, 1);
        edge(10, "if the ERRAND is FAR, none (that is no HOLD)");
        x.way(4, 5, 0);
        one(0, 0, 9, 9);
        one(2, 0, 9, 9);
        people(0, 0);
        x.tie(0, 2, 0);
        x.go(40);
        dueOf(1, 0, 0, 0, 0);
        dueOf(7, 0, 0, 0, 0);
        edge(10, "one who isn't where the ERRAND is (there: no HOLD, though the ROPE is too short)");
        people(0, 9);
        x.tie(0, 1, 0);
        x.go(3);
        dueOf(1, 0, 9);
        dueOf(7, 0, 0);
    }

    private static void ropeInTheWay() {
        edge(10, "if the ROPE LETS one be there, one moves; else one is HELD");
        one(0, 0, 9, 3);
        one(0, 0, 0, 3);
        x.tie(0, 1, 2);
        x.go(2);
        dueOf(1, 2, 0);
        dueOf(7, 0, 0);
        x.go(1);
        dueOf(1, 2, 0);
        dueOf(7, 1, 0);
        edge(10, "LENGTH 0: HELD at once");
        one(0, 0, 9, 3);
        one(0, 0, 0, 3);
        x.tie(0, 1, 0);
        x.go(1);
        dueOf(1, 0, 0);
        dueOf(7, 1, 0);
        edge(10, "SLACK: 3 more, 6 of two");
        one(5, 0, 9, 3);
        one(0, 0, 0, 3);
        one(5, 0, 9, 3);
        one(5, 0, 0, 3);
        x.tie(0, 1, 1);
        x.tie(2, 3, 1);
        x.go(9);
        dueOf(1, 4, 0, 7, 0);
        dueOf(7, 5, 0, 2, 0);
        edge(10, "the ROPE goes by DISTANCE, not by moves");
        x.way(1, 2, 9);
        one(0, 0, 9, 3);
        one(0, 0, 0, 3);
        x.tie(0, 1, 9);
        x.go(3);
        dueOf(1, 1, 0);
        x.tie(0, 1, 10);
        x.go(1);
        dueOf(1, 2, 0);
        edge(10, "too far off already: moves that leave one too far off are none");
        one(0, 0, 5, 3);
        people(5);
        x.tie(0, 1, 3);
        x.go(2);
        dueOf(1, 0, 5);
        dueOf(7, 2, 0);
        x.tie(0, 1, 4);
        x.go(1);
        dueOf(1, 1, 5);
    }

    private static void tugs() {
        edge(10, "PULLS more than the MATE's: just as many are not");
        one(0, 0, 9, 5);
        one(0, 0, 0, 5);
        x.tie(0, 1, 0);
        x.go(1);
        dueOf(1, 0, 0);
        dueOf(7, 1, 0);
        dueOf(8, 0, 0);
        edge(10, "PULLS more than the MATE's: one more is");
        one(0, 0, 9, 6);
        one(0, 0, 0, 5);
        x.tie(0, 1, 0);
        x.go(1);
        dueOf(1, 1, 1);
        dueOf(7, 0, 1);
        dueOf(8, 0, 1);
        edge(10, "PULLS more than the MATE's: one less is not");
        one(0, 0, 9, 5);
        one(0, 0, 0, 6);
        x.tie(0, 1, 0);
        x.go(1);
        dueOf(1, 0, 0);
        dueOf(7, 1, 0);
        edge(10, "the MATE is TUGGED only if the ROPE doesn't LET one be there");
        one(0, 0, 9, 9);
        one(0, 0, 0, 0);
        x.tie(0, 1, 1);
        x.go(1);
        dueOf(1, 1, 0);
        dueOf(8, 0, 0);
        x.go(1);
        dueOf(1, 2, 1);
        dueOf(8, 0, 1);
        edge(10, "an ANCHOR is TUGGED, too, but goes nowhere and is not HELD");
        one(1, 5, 9, 9);
        one(6, 5, 0, 0);
        x.tie(0, 1, 0);
        x.go(2);
        dueOf(1, 7, 7);
        dueOf(7, 0, 0);
        dueOf(8, 0, 2);
        edge(10, "PULLS by the CLOCK as it is in the STEP");
        one(3, 0, 9, 4);
        one(0, 0, 0, 4);
        x.tie(0, 1, 0);
        due("of(0, 5)", x.of(0, 5), 5);
        x.go(1);
        dueOf(1, 2, 2);
        dueOf(8, 0, 2);
        due("of(0, 5)", x.of(0, 5), 3);
        x.go(1);
        dueOf(1, 1, 1);
        dueOf(7, 1, 1);
        dueOf(8, 1, 2);
    }

    private static void tugGoesWhere() {
        edge(10, "of the PLACES beside the MATE's the nearest, however long its WAY is");
        x.way(0, 3, 9);
        one(0, 2, 9, 9);
        one(0, 0, 3, 0);
        x.tie(0, 1, 2);
        x.go(1);
        dueOf(1, 3, 3);
        dueOf(8, 0, 1);
        edge(10, "of the PLACES beside the MATE's the nearest: 0, 9");
        one(1, 1, 0, 9);
        one(6, 2, 2, 0);
        one(1, 8, 9, 9);
        one(6, 7, 7, 0);
        x.tie(0, 1, 1);
        x.tie(2, 3, 1);
        x.way(0, 2, 9);
        x.way(7, 9, 9);
        x.go(1);
        dueOf(1, 0, 0, 9, 9);
        dueOf(8, 0, 1, 0, 1);
        edge(10, "of several the least");
        x.way(0, 1, 0);
        x.way(2, 3, 0);
        x.way(0, 7, 1);
        x.way(0, 4, 1);
        x.way(3, 7, 1);
        x.way(6, 7, 0);
        one(0, 4, 3, 9);
        one(0, 0, 0, 3);
        x.tie(0, 1, 1);
        x.go(1);
        dueOf(1, 3, 4);
        edge(10, "nearer to it than the MATE's own: FAR is no nearer than FAR");
        x.way(4, 5, 0);
        one(0, 4, 0, 9);
        one(0, 6, 6, 0);
        x.tie(0, 1, 3);
        x.go(1);
        dueOf(1, 4, 6);
        dueOf(7, 1, 0);
        edge(10, "no PLACE is beside the MATE's");
        apartFromAll(5);
        one(0, 4, 0, 9);
        one(0, 5, 5, 0);
        x.tie(0, 1, 3);
        x.go(1);
        dueOf(1, 4, 5);
        dueOf(7, 1, 0);
        edge(10, "the ROPE LETS the two be there: just");
        one(0, 0, 9, 9);
        one(0, 5, 5, 0);
        x.tie(0, 1, 3);
        x.go(1);
        dueOf(1, 1, 4);
        dueOf(8, 0, 1);
        edge(10, "the ROPE LETS the two be there: not, by one");
        one(0, 0, 9, 9);
        one(0, 5, 5, 0);
        x.tie(0, 1, 2);
        x.go(1);
        dueOf(1, 0, 5);
        dueOf(7, 1, 0);
        dueOf(8, 0, 0);
        edge(10, "the MATE comes to where one wants to be: nearest of all");
        one(0, 2, 9, 9);
        one(0, 4, 4, 0);
        x.tie(0, 1, 0);
        x.go(1);
        dueOf(1, 3, 3);
    }

    private static void manyMoves() {
        edge(10, "HELD: moves no more in this STEP (one HOLD a STEP, whatever GOES is)");
        one(2, 0, 9, 3);
        people(0);
        one(4, 0, 9, 3);
        people(0);
        x.tie(0, 1, 0);
        x.tie(2, 3, 0);
        x.go(1);
        dueOf(1, 0, 0, 0, 0);
        dueOf(7, 1, 0, 1, 0);
        x.go(5);
        dueOf(7, 6, 0, 6, 0);
        edge(10, "HELD behind a move or two");
        one(2, 0, 9, 3);
        people(0);
        one(4, 0, 9, 3);
        people(0);
        x.tie(0, 1, 1);
        x.tie(2, 3, 2);
        x.go(1);
        dueOf(1, 1, 0, 2, 0);
        dueOf(7, 1, 0, 1, 0);
        edge(10, "as long as not there: the last moves are left, and no HOLD");
        one(2, 0, 1, 3);
        people(0);
        one(4, 0, 2, 3);
        people(0);
        x.tie(0, 1, 1);
        x.tie(2, 3, 2);
        x.go(1);
        dueOf(1, 1, 0, 2, 0);
        dueOf(7, 0, 0, 0, 0);
        edge(10, "TUGS: as often as one was TUGGED, also in one STEP");
        one(2, 0, 9, 9);
        one(0, 0, 0, 0);
        one(4, 0, 9, 9);
        one(0, 0, 0, 0);
        x.tie(0, 1, 0);
        x.tie(2, 3, 0);
        x.go(1);
        dueOf(1, 2, 2, 3, 3);
        dueOf(8, 0, 2, 0, 3);
        due("now(4)", x.now(4), 5);
    }

    private static void orderInAStep() {
        edge(10, "PEOPLE by numbers: the first is HELD before the second comes");
        one(0, 4, 9, 3);
        one(0, 4, 9, 3);
        x.tie(0, 1, 0);
        x.go(1);
        dueOf(1, 4, 4);
        dueOf(7, 1, 1);
        x.tie(0, 1, 1);
        x.go(1);
        dueOf(1, 5, 5);
        dueOf(7, 1, 1);
        edge(10, "PEOPLE by numbers: the second finds the first gone on");
        one(0, 4, 9, 3);
        one(0, 3, 9, 3);
        x.tie(1, 0, 1);
        x.go(1);
        dueOf(1, 4, 4);
        dueOf(7, 1, 0);
        edge(10, "one who was HELD is TUGGED in the same STEP");
        one(0, 4, 9, 0);
        one(0, 4, 0, 9);
        x.tie(0, 1, 0);
        x.go(1);
        dueOf(1, 3, 3);
        dueOf(7, 1, 0);
        dueOf(8, 1, 0);
        edge(10, "one who was TUGGED moves still in the same STEP");
        one(2, 4, 9, 9);
        one(0, 4, 9, 0);
        x.tie(0, 1, 1);
        x.go(1);
        dueOf(1, 6, 6);
        dueOf(7, 0, 0);
        dueOf(8, 0, 1);
    }

    private static void now() {
        edge(11, "what 0 to 4");
        int[] others = {-1, 5, LEAST, MOST};
        for (int what : others) due("now(" + what + ")", x.now(what), BEYOND);
        edge(11, "nobody: empty sets, no HOLDS, no TUGS");
        x.go(2);
        int[] nothing = {2, 0, 0, 0, 0};
        for (int what = 0; what < 5; what++) due("now(" + what + ")", x.now(what), nothing[what]);
        edge(11, "who is THERE: all of 8, and none of them");
        people(0, 1, 2, 3, 4, 5, 6, 7);
        due("now(1)", x.now(1), 255);
        for (int p = 0; p < 8; p++) x.change(p, 2, 9);
        due("now(1)", x.now(1), 0);
        x.change(7, 2, 7);
        due("now(1)", x.now(1), 128);
        edge(11, "tight: DISTANCE of the two is just LENGTH and SLACK of both");
        people(0, 5);
        due("no ROPE", x.now(2), 0);
        x.tie(0, 1, 4);
        due("LENGTH is less", x.now(2), 0);
        x.tie(0, 1, 5);
        due("LENGTH is just so", x.now(2), 3);
        x.tie(0, 1, 6);
        due("LENGTH is more", x.now(2), 0);
        x.tie(0, 1, 2);
        x.change(0, 0, 5);
        due("LENGTH and a SLACK are just so", x.now(2), 3);
        x.change(1, 0, 5);
        due("LENGTH and two SLACKS are more", x.now(2), 0);
        edge(11, "tight: by where they are, not by their ERRANDS");
        one(0, 0, 6, 3);
        one(0, 4, 9, 3);
        int[] lengths = {2, 3, 5, 9};
        for (int length : lengths) {
            x.tie(0, 1, length);
            due("now(2) by " + length, x.now(2), 0);
        }
        x.tie(0, 1, 4);
        due("now(2) by 4", x.now(2), 3);
        edge(11, "tight: LENGTH 0 at one PLACE; all of 8");
        people(0, 0, 1, 1, 2, 2, 3, 3);
        for (int p = 0; p < 8; p += 2) x.tie(p, p + 1, 0);
        due("now(2)", x.now(2), 255);
        x.cut(5);
        due("now(2)", x.now(2), 207);
        edge(11, "tight: FAR by a ROPE of 999");
        people(0, 9);
        x.way(4, 5, 0);
        x.tie(0, 1, 999);
        due("now(2)", x.now(2), 3);
        x.tie(0, 1, 998);
        due("now(2)", x.now(2), 0);
        edge(11, "HOLDS of all, TUGS of all");
        one(0, 0, 9, 3);
        people(0);
        one(2, 0, 9, 9);
        one(0, 0, 0, 0);
        x.tie(0, 1, 0);
        x.tie(2, 3, 0);
        x.go(2);
        due("now(3)", x.now(3), 2 + x.of(3, 7));
        due("now(4)", x.now(4), x.of(3, 8));
        due("of(3, 8)", x.of(3, 8), 4);
        edge(11, "TUGS of all: of the first and of the last");
        for (int i = 0; i < 4; i++) {
            one(0, 4, 4, i == 3 ? 9 : 0);
            one(0, 4, i == 3 ? 4 : 9, i == 3 ? 0 : 9);
            x.tie(2 * i, 2 * i + 1, 0);
        }
        x.change(6, 2, 9);
        x.go(1);
        dueOf(8, 1, 0, 1, 0, 1, 0, 0, 1);
        due("now(4)", x.now(4), 4);
    }

    private static void next() {
        edge(12, "the own one if THERE");
        people(0, 9);
        due("next(0)", x.next(0), 0);
        due("next(1)", x.next(1), 9);
        edge(12, "the own one if the ERRAND is FAR");
        x.way(4, 5, 0);
        one(0, 4, 5, 3);
        due("next(0)", x.next(0), 4);
        edge(12, "the ROPE not counting");
        one(0, 4, 9, 3);
        people(0);
        x.tie(0, 1, 0);
        due("next(0)", x.next(0), 5);
        edge(12, "where one would move: GOES not counting");
        one(6, 4, 9, 3);
        one(4, 4, 9, 3);
        due("next(0) of an ANCHOR", x.next(0), 5);
        due("next(1) of a THIEF", x.next(1), 5);
        edge(12, "of several the least");
        x.way(4, 7, 3);
        one(0, 4, 7, 3);
        due("next(0)", x.next(0), 5);
        x.way(4, 7, 2);
        due("next(0)", x.next(0), 7);
        edge(12, "BEYOND: no such PERSON");
        due("next(0) of nobody", x.next(0), BEYOND);
        people(3);
        int[] others = {-1, 1, LEAST, MOST};
        for (int p : others) due("next(" + p + ")", x.next(p), BEYOND);
    }

    private static void may() {
        edge(13, "by the ROPE: LENGTH just, one more");
        people(4, 4);
        x.tie(0, 1, 2);
        for (int place = 0; place < 10; place++) {
            due("may(0, " + place + ")", x.may(0, place), place >= 2 && place <= 6 ? 1 : 0);
        }
        edge(13, "by the ROPE: SLACK of both");
        people(0, 0);
        x.change(1, 0, 5);
        x.tie(0, 1, 2);
        due("may(0, 5)", x.may(0, 5), 1);
        due("may(0, 6)", x.may(0, 6), 0);
        x.change(0, 0, 5);
        due("may(0, 8)", x.may(0, 8), 1);
        due("may(0, 9)", x.may(0, 9), 0);
        edge(13, "PEOPLE without a MATE are free");
        people(0, 0, 0);
        x.tie(1, 2, 0);
        x.way(4, 5, 0);
        for (int place = 0; place < 10; place++) due("may(0, " + place + ")", x.may(0, place), 1);
        x.cut(1);
        due("may(1, 9)", x.may(1, 9), 1);
        edge(13, "FAR by a ROPE of 998, of 999");
        people(0, 0);
        x.way(4, 5, 0);
        x.tie(0, 1, 998);
        due("may(0, 9)", x.may(0, 9), 0);
        x.tie(0, 1, 999);
        due("may(0, 9)", x.may(0, 9), 1);
        edge(13, "the own PLACE, where one may not be");
        people(0, 9);
        x.tie(0, 1, 3);
        due("may(0, 0)", x.may(0, 0), 0);
        due("may(0, 6)", x.may(0, 6), 1);
        edge(13, "BEYOND");
        due("may(0, 0) of nobody", x.may(0, 0), BEYOND);
        people(0);
        due("may(0, 9)", x.may(0, 9), 1);
        int[] others = {-1, 10, LEAST, MOST};
        for (int i : others) {
            due("may(" + i + ", 0)", x.may(i, 0), BEYOND);
            due("may(0, " + i + ")", x.may(0, i), BEYOND);
        }
        due("may(1, 0)", x.may(1, 0), BEYOND);
    }
}
