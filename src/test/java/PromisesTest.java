/** Each promise of the document: ordinary calls, the edges that it names, wrong ones. */
public final class PromisesTest {
    private static final long BEYOND = Check.BEYOND;
    private static final long FULL = Check.FULL;
    private static final long KIND = Check.KIND;
    private static final long NONE = Check.NONE;
    private static final long STATE = Check.STATE;
    private static final long MISSING = Check.MISSING;
    private static final long SIZE = Check.SIZE;
    private static final int LEAST = Integer.MIN_VALUE;
    private static final int MOST = Integer.MAX_VALUE;

    private static final Check check = new Check("PromisesTest");
    private static int promise = 0;
    private static StrangerRopes x = new StrangerRopes();

    public static void main(String[] args) {
        placesAndPeople();
        steps();
        forecasts();
        cutsAndMates();
        tugsPullsDraws();
        texts();
        spotsAndSheets();
        images();
        check.end();
    }

    private static void begin(int number) {
        promise = number;
        x = new StrangerRopes();
    }

    private static void due(String call, long got, long want) {
        check.due("promise " + promise + ": " + call, got, want);
    }

    private static void people(int... places) {
        for (int place : places) x.person(0, place);
    }

    private static void feedAll(String text) {
        Edges.feedTo(x, text);
    }

    private static void dueText(String text, long want) {
        feedAll(text);
        due("text() of '" + text + "'", x.text(), want);
        due("the tape behind it", x.count(5), 0);
    }

    private static void row(int s, int bits, int... numbers) {
        x.sheet(s, bits, numbers.length);
        for (int i = 0; i < numbers.length; i++) x.write(s, i, numbers[i]);
    }

    // All the people on one line: what of() tells of each.
    private static void dueOf(int what, int... wants) {
        for (int p = 0; p < wants.length; p++) due("of(" + p + ", " + what + ")", x.of(p, what), wants[p]);
    }

    private static void placesAndPeople() {
        newObject();
        wayAndFar();
        personAndOf();
        change();
        tieCutRope();
    }

    private static void newObject() {
        begin(1);
        int[] counts = {0, 0, 0, 9, 0, 0, 1, 0};
        for (int i = 0; i < counts.length; i++) due("count(" + i + ")", x.count(i), counts[i]);
        for (int i = -1; i < 7; i++) due("status(" + i + ")", x.status(i), 0);
        for (int i = 0; i < 5; i++) due("now(" + i + ")", x.now(i), 0);
        due("wipe()", x.wipe(), 0);
        due("tear()", x.tear(), 0);
        due("undo()", x.undo(), NONE);
        for (int i = 0; i < 10; i++) due("as(" + i + ", 0)", x.as(i, 0), MISSING);
        for (int i = 0; i < 4; i++) due("load(" + i + ")", x.load(i), MISSING);
        for (int a = 0; a < 10; a++) {
            for (int b = 0; b < 10; b++) due("far(" + a + ", " + b + ")", x.far(a, b), Math.abs(a - b));
        }
        StrangerRopes other = new StrangerRopes();
        other.person(0, 0);
        other.way(0, 1, 9);
        due("people of this one", x.count(1), 0);
        due("ways of this one", x.count(3), 9);
    }

    private static void wayAndFar() {
        begin(2);
        due("way(0, 1, 9)", x.way(0, 1, 9), 1);
        due("way(1, 0, 4)", x.way(1, 0, 4), 9);
        due("way(0, 1, 0)", x.way(0, 1, 0), 4);
        due("way(0, 1, 0)", x.way(0, 1, 0), 0);
        due("way(9, 0, 2)", x.way(9, 0, 2), 0);
        due("way(0, 9, 2)", x.way(0, 9, 2), 2);
        due("way(3, 3, 1)", x.way(3, 3, 1), BEYOND);
        due("way(-1, 3, 1)", x.way(-1, 3, 1), BEYOND);
        due("way(3, -1, 1)", x.way(3, -1, 1), BEYOND);
        due("way(10, 3, 1)", x.way(10, 3, 1), BEYOND);
        due("way(3, 10, 1)", x.way(3, 10, 1), BEYOND);
        due("way(3, 4, -1)", x.way(3, 4, -1), BEYOND);
        due("way(3, 4, 10)", x.way(3, 4, 10), BEYOND);
        due("way(LEAST, MOST, 1)", x.way(LEAST, MOST, 1), BEYOND);
        due("count(3)", x.count(3), 10);
        begin(3);
        due("far(2, 2)", x.far(2, 2), 0);
        due("far(0, 9)", x.far(0, 9), 9);
        x.way(0, 9, 4);
        due("far(0, 9)", x.far(0, 9), 4);
        due("far(9, 0)", x.far(9, 0), 4);
        due("far(1, 8)", x.far(1, 8), 6);
        x.way(0, 9, 9);
        x.way(4, 5, 9);
        due("far(4, 5)", x.far(4, 5), 9);
        due("far(3, 6)", x.far(3, 6), 11);
        x.way(4, 5, 0);
        due("far(4, 5)", x.far(4, 5), 17);
        x.way(0, 9, 0);
        due("far(4, 5)", x.far(4, 5), 999);
        due("far(5, 5)", x.far(5, 5), 0);
        due("far(-1, 0)", x.far(-1, 0), BEYOND);
        due("far(0, -1)", x.far(0, -1), BEYOND);
        due("far(10, 0)", x.far(10, 0), BEYOND);
        due("far(0, 10)", x.far(0, 10), BEYOND);
        due("far(MOST, LEAST)", x.far(MOST, LEAST), BEYOND);
    }

    private static void personAndOf() {
        begin(4);
        due("person(-1, 0)", x.person(-1, 0), BEYOND);
        due("person(7, 0)", x.person(7, 0), BEYOND);
        due("person(0, -1)", x.person(0, -1), BEYOND);
        due("person(0, 10)", x.person(0, 10), BEYOND);
        for (int i = 0; i < 8; i++) due("person " + i, x.person(i % 7, 9 - i), i);
        due("person(0, 0)", x.person(0, 0), FULL);
        due("person(7, 0)", x.person(7, 0), BEYOND);
        due("person(0, 10)", x.person(0, 10), BEYOND);
        due("count(1)", x.count(1), 8);
        begin(5);
        due("of(0, 0)", x.of(0, 0), BEYOND);
        for (int kind = 0; kind < 7; kind++) x.person(kind, 7);
        int[] first = {6, 7, 7, -1, 3, 16, 0, 0, 0};
        for (int i = 0; i < first.length; i++) due("of(6, " + i + ")", x.of(6, i), first[i]);
        dueOf(0, 0, 1, 2, 3, 4, 5, 6);
        dueOf(6, 1, 1, 2, 2, 3, 1, 0);
        duePulls(3, 3, 8, 2, 4, 2, 3, 16);
        duePulls(0, 0, 5, 0, 2, 1, 0, 10);
        duePulls(1, 1, 6, 0, 2, 1, 1, 12);
        duePulls(9, 9, 14, 8, 10, 5, 9, 28);
        x.go(1);
        duePulls(3, 3, 8, 2, 2, 1, 3, 16);
        duePulls(0, 0, 5, 0, 0, 0, 0, 10);
        duePulls(9, 9, 14, 8, 8, 4, 9, 28);
        due("of(7, 0)", x.of(7, 0), BEYOND);
        due("of(-1, 0)", x.of(-1, 0), BEYOND);
        due("of(0, -1)", x.of(0, -1), BEYOND);
        due("of(0, 9)", x.of(0, 9), BEYOND);
        due("of(MOST, LEAST)", x.of(MOST, LEAST), BEYOND);
    }

    private static void duePulls(int strength, int... wants) {
        for (int p = 0; p < 7; p++) x.change(p, 4, strength);
        dueOf(5, wants);
    }

    private static void change() {
        begin(6);
        people(2, 4);
        due("change(0, 0, 6)", x.change(0, 0, 6), 0);
        due("change(0, 0, 5)", x.change(0, 0, 5), 6);
        due("change(0, 1, 9)", x.change(0, 1, 9), 2);
        due("of(0, 2)", x.of(0, 2), 2);
        due("change(0, 2, 0)", x.change(0, 2, 0), 2);
        due("of(0, 1)", x.of(0, 1), 9);
        due("change(0, 4, 9)", x.change(0, 4, 9), 3);
        due("change(0, 4, 0)", x.change(0, 4, 0), 9);
        int[] whats = {0, 1, 2, 4};
        int[] mosts = {6, 9, 9, 9};
        for (int i = 0; i < 4; i++) {
            due("too little of " + whats[i], x.change(0, whats[i], -1), BEYOND);
            due("too much of " + whats[i], x.change(0, whats[i], mosts[i] + 1), BEYOND);
        }
        int[] others = {-1, 3, 5, 6, 7, 8, 9, LEAST, MOST};
        for (int what : others) due("change(0, " + what + ", 0)", x.change(0, what, 0), BEYOND);
        due("change(2, 0, 0)", x.change(2, 0, 0), BEYOND);
        due("change(-1, 0, 0)", x.change(-1, 0, 0), BEYOND);
        begin(6);
        people(2, 4);
        x.tie(0, 1, 2);
        due("change(0, 1, 1)", x.change(0, 1, 1), STATE);
        due("of(0, 1)", x.of(0, 1), 2);
        due("change(0, 1, 6)", x.change(0, 1, 6), 2);
        due("change(0, 1, 7)", x.change(0, 1, 7), STATE);
        due("change(0, 1, 10)", x.change(0, 1, 10), BEYOND);
        x.change(1, 0, 5);
        due("change(0, 1, 9)", x.change(0, 1, 9), 6);
        x.change(1, 0, 0);
        due("its own place", x.change(0, 1, 9), STATE);
        due("ERRAND by a rope", x.change(0, 2, 0), 2);
    }

    private static void tieCutRope() {
        begin(7);
        people(0, 2, 2, 9);
        due("tie(0, 1, 1)", x.tie(0, 1, 1), 0);
        due("tie(1, 0, 2)", x.tie(1, 0, 2), 1);
        due("count(2)", x.count(2), 1);
        due("tie(2, 3, 999)", x.tie(2, 3, 999), 1);
        due("tie(0, 3, 0)", x.tie(0, 3, 0), 0);
        dueOf(3, 3, -1, -1, 0);
        due("count(2)", x.count(2), 1);
        due("count(4)", x.count(4), 0);
        x.change(0, 0, 5);
        due("tie(0, 3, 5)", x.tie(0, 3, 5), 0);
        due("tie(0, 3, 6)", x.tie(0, 3, 6), 1);
        x.change(3, 0, 5);
        due("tie(3, 0, 3)", x.tie(3, 0, 3), 1);
        x.way(4, 5, 0);
        due("tie(1, 3, 995)", x.tie(1, 3, 995), 0);
        due("tie(1, 3, 996)", x.tie(1, 3, 996), 1);
        due("tie(0, 0, 1)", x.tie(0, 0, 1), BEYOND);
        due("tie(-1, 0, 1)", x.tie(-1, 0, 1), BEYOND);
        due("tie(0, 4, 1)", x.tie(0, 4, 1), BEYOND);
        due("tie(4, 0, 1)", x.tie(4, 0, 1), BEYOND);
        due("tie(0, 1, -1)", x.tie(0, 1, -1), BEYOND);
        due("tie(0, 1, 1000)", x.tie(0, 1, 1000), BEYOND);
        dueOf(3, -1, 3, -1, 1);
        begin(8);
        people(0, 1, 2);
        x.tie(0, 2, 5);
        due("cut(1)", x.cut(1), NONE);
        due("cut(2)", x.cut(2), 0);
        due("cut(2)", x.cut(2), NONE);
        due("cut(0)", x.cut(0), NONE);
        dueOf(3, -1, -1, -1);
        due("cut(3)", x.cut(3), BEYOND);
        due("cut(-1)", x.cut(-1), BEYOND);
        begin(9);
        people(0, 1, 2);
        x.tie(0, 2, 7);
        due("rope(0)", x.rope(0), 7);
        due("rope(2)", x.rope(2), 7);
        due("rope(1)", x.rope(1), NONE);
        x.tie(2, 1, 0);
        due("rope(2)", x.rope(2), 0);
        due("rope(0)", x.rope(0), NONE);
        due("rope(3)", x.rope(3), BEYOND);
        due("rope(-1)", x.rope(-1), BEYOND);
    }

    private static void steps() {
        goFree();
        goTied();
        nowNextMay();
    }

    private static void goFree() {
        begin(10);
        due("go(0)", x.go(0), BEYOND);
        due("go(-1)", x.go(-1), BEYOND);
        due("go(41)", x.go(41), BEYOND);
        due("go(40)", x.go(40), 40);
        due("go(1)", x.go(1), 41);
        begin(10);
        for (int kind = 0; kind < 7; kind++) {
            x.person(kind, 0);
            x.change(kind, 2, 5);
        }
        x.go(1);
        dueOf(1, 1, 1, 2, 2, 3, 1, 0);
        x.go(1);
        dueOf(1, 2, 2, 4, 4, 5, 2, 0);
        x.go(1);
        dueOf(1, 3, 3, 5, 5, 5, 3, 0);
        dueOf(7, 0, 0, 0, 0, 0, 0, 0);
        begin(10);
        x.way(1, 2, 0);
        x.way(2, 3, 0);
        x.way(0, 3, 1);
        x.way(1, 4, 1);
        people(0, 4, 4);
        x.change(0, 2, 4);
        x.change(1, 2, 0);
        x.change(2, 2, 3);
        x.go(1);
        dueOf(1, 1, 1, 3);
        begin(10);
        x.way(0, 5, 6);
        people(0, 0);
        x.change(0, 2, 5);
        x.change(1, 2, 6);
        x.way(5, 6, 0);
        x.go(1);
        dueOf(1, 1, 0);
        dueOf(7, 0, 0);
    }

    private static void goTied() {
        begin(10);
        people(0, 0);
        x.change(0, 2, 5);
        x.tie(0, 1, 1);
        x.go(1);
        dueOf(1, 1, 0);
        x.go(1);
        dueOf(1, 1, 0);
        dueOf(7, 1, 0);
        x.change(0, 4, 4);
        x.go(1);
        dueOf(1, 2, 1);
        dueOf(7, 1, 1);
        dueOf(8, 0, 1);
        x.go(1);
        dueOf(1, 3, 2);
        dueOf(7, 1, 2);
        dueOf(8, 0, 2);
        theTugGoesNearer();
        theTugStaysInReach();
        theLaterOneTugs();
        oneMoreTooShort();
        dancersByTheClock();
        talliesAtMost();
        clockAtMost();
    }

    // The mate at 0 has two ways on; 4 and 7 are as near to 3, and the least is taken.
    private static void theTugGoesNearer() {
        begin(10);
        x.way(0, 1, 0);
        x.way(2, 3, 0);
        x.way(0, 7, 1);
        x.way(0, 4, 1);
        x.way(3, 7, 1);
        x.way(6, 7, 0);
        people(4, 0);
        x.change(0, 4, 9);
        x.change(0, 2, 3);
        x.tie(0, 1, 1);
        x.go(1);
        dueOf(1, 3, 4);
        dueOf(8, 0, 1);
    }

    // At the end of a long way the mate would be no nearer, or still too far off.
    private static void theTugStaysInReach() {
        begin(10);
        people(1, 0);
        x.change(0, 4, 9);
        x.change(0, 2, 2);
        x.way(1, 2, 9);
        x.tie(0, 1, 5);
        x.go(1);
        dueOf(1, 1, 0);
        dueOf(7, 1, 0);
        dueOf(8, 0, 0);
        begin(10);
        people(4, 5);
        x.way(4, 5, 0);
        x.way(5, 6, 0);
        x.change(0, 4, 9);
        x.change(0, 2, 0);
        x.tie(0, 1, 3);
        x.go(1);
        dueOf(1, 4, 5);
        dueOf(7, 1, 0);
    }

    private static void theLaterOneTugs() {
        begin(10);
        people(5, 5);
        x.change(0, 2, 9);
        x.change(1, 2, 0);
        x.change(1, 4, 9);
        x.change(1, 0, 4);
        x.change(0, 4, 0);
        x.tie(0, 1, 1);
        x.go(1);
        dueOf(1, 3, 2);
        dueOf(7, 0, 0);
        dueOf(8, 3, 0);
        due("now(4)", x.now(4), 3);
    }

    // Nobody who is too far off already comes nearer unless one step does.
    private static void oneMoreTooShort() {
        begin(10);
        people(0, 5);
        x.change(0, 2, 5);
        x.tie(0, 1, 1);
        x.go(3);
        dueOf(1, 0, 5);
        dueOf(7, 3, 0);
        x.tie(0, 1, 4);
        x.go(1);
        dueOf(1, 1, 5);
    }

    private static void dancersByTheClock() {
        begin(10);
        people(1, 0);
        x.change(0, 0, 3);
        x.change(0, 2, 9);
        x.tie(0, 1, 1);
        x.go(1);
        dueOf(1, 3, 2);
        dueOf(7, 0, 1);
        x.go(1);
        dueOf(1, 2, 1);
        dueOf(7, 1, 1);
        dueOf(8, 1, 2);
        x.go(1);
        dueOf(1, 4, 3);
        dueOf(7, 1, 2);
        dueOf(8, 1, 4);
    }

    private static void talliesAtMost() {
        begin(10);
        people(0, 0);
        x.change(0, 2, 1);
        x.tie(0, 1, 0);
        for (int i = 0; i < 249; i++) x.go(40);
        dueOf(7, 9960, 0);
        x.go(39);
        dueOf(7, 9999, 0);
        x.go(40);
        dueOf(7, 9999, 0);
        begin(10);
        people(0, 0);
        x.change(0, 0, 1);
        x.tie(0, 1, 0);
        int z = 1;
        int place = 0;
        int moved = 0;
        for (int day = 0; day < 4500; day++) {
            z = z * 1103515245 + 12345;
            int errand = (z >>> 8) % 10;
            z = z * 1103515245 + 12345;
            moved += Math.abs(errand - place);
            place = errand;
            if (day % 10 == 9) x.days(10);
            if (day == 999 || day == 4499) dueOf(8, 0, Math.min(moved, 9999));
        }
        due("now(4)", x.now(4), 9999);
        due("TUGS that would be more", moved > 9999 ? 1 : 0, 1);
        x.change(0, 2, place == 0 ? 1 : 0);
        row(0, 8, 1);
        due("fits() beyond the most TUGS", x.fits(0, 1, 0), 1);
    }

    // Only behind more calls than an object is promised for, so this binds this program alone.
    private static void clockAtMost() {
        begin(10);
        people(1, 0);
        for (int i = 0; i < 2499; i++) x.go(40);
        due("go(40)", x.go(40), STATE);
        due("go(41)", x.go(41), BEYOND);
        due("days(4)", x.days(4), STATE);
        due("days(11)", x.days(11), BEYOND);
        due("count(0)", x.count(0), 99960);
        due("count(6)", x.count(6), 1);
        x.days(3);
        due("days(1)", x.days(1), STATE);
        due("go(10)", x.go(10), STATE);
        due("go(9)", x.go(9), 99999);
        due("go(1)", x.go(1), STATE);
        due("status(4)", x.status(4), 5);
        theDancerAtTheLastClock();
        daysToTheLastClock();
    }

    private static void daysToTheLastClock() {
        begin(31);
        x.go(9);
        for (int i = 0; i < 999; i++) x.days(10);
        due("days(10)", x.days(10), STATE);
        due("days(9)", x.days(9), 0);
        due("count(0)", x.count(0), 99999);
        due("days(1)", x.days(1), STATE);
    }

    // CLOCK stays odd in what is foreseen, so the dancer never gets the stronger one.
    private static void theDancerAtTheLastClock() {
        x.change(0, 0, 3);
        x.change(0, 1, 1);
        x.change(0, 2, 9);
        x.change(1, 1, 0);
        x.change(1, 2, 0);
        x.tie(0, 1, 1);
        due("still()", x.still(), 0);
        due("when(0)", x.when(0), NONE);
        due("ahead(60)", x.ahead(60), 2);
    }

    private static void nowNextMay() {
        begin(11);
        people(0, 3, 5, 9);
        x.change(1, 2, 4);
        x.tie(0, 1, 3);
        x.tie(2, 3, 5);
        due("now(0)", x.now(0), 0);
        due("now(1)", x.now(1), 13);
        due("now(2)", x.now(2), 3);
        x.change(3, 0, 5);
        x.tie(2, 3, 1);
        due("now(2)", x.now(2), 15);
        x.go(2);
        due("now(0)", x.now(0), 2);
        due("now(3)", x.now(3), 2);
        due("now(4)", x.now(4), 0);
        due("now(-1)", x.now(-1), BEYOND);
        due("now(5)", x.now(5), BEYOND);
        begin(12);
        people(0, 0);
        x.change(1, 2, 3);
        x.tie(0, 1, 0);
        due("next(0)", x.next(0), 0);
        due("next(1)", x.next(1), 1);
        x.way(0, 3, 3);
        due("next(1)", x.next(1), 1);
        x.way(0, 3, 2);
        due("next(1)", x.next(1), 3);
        x.change(1, 0, 6);
        due("next(1)", x.next(1), 3);
        x.way(0, 3, 0);
        x.way(2, 3, 0);
        due("next(1)", x.next(1), 0);
        due("next(2)", x.next(2), BEYOND);
        due("next(-1)", x.next(-1), BEYOND);
        begin(13);
        people(5, 5, 5);
        x.tie(0, 1, 2);
        for (int place = 0; place < 10; place++) {
            due("may(0, " + place + ")", x.may(0, place), Math.abs(place - 5) <= 2 ? 1 : 0);
            due("may(2, " + place + ")", x.may(2, place), 1);
        }
        x.change(0, 0, 5);
        due("may(0, 0)", x.may(0, 0), 1);
        due("may(1, 0)", x.may(1, 0), 1);
        due("may(3, 0)", x.may(3, 0), BEYOND);
        due("may(-1, 0)", x.may(-1, 0), BEYOND);
        due("may(0, 10)", x.may(0, 10), BEYOND);
        due("may(0, -1)", x.may(0, -1), BEYOND);
    }

    private static void forecasts() {
        whenAndAhead();
        heldAndStill();
        lengthKindLead();
    }

    private static void whenAndAhead() {
        begin(14);
        people(0, 4, 4);
        x.change(0, 2, 9);
        due("when(0)", x.when(0), 9);
        due("when(1)", x.when(1), 0);
        x.change(0, 0, 2);
        due("when(0)", x.when(0), 5);
        x.change(0, 0, 4);
        due("when(0)", x.when(0), 3);
        x.change(0, 0, 6);
        due("when(0)", x.when(0), NONE);
        x.change(0, 0, 0);
        x.tie(0, 2, 4);
        due("when(0)", x.when(0), NONE);
        due("of(0, 1)", x.of(0, 1), 0);
        due("now(3)", x.now(3), 0);
        due("count(0)", x.count(0), 0);
        due("when(3)", x.when(3), BEYOND);
        due("when(-1)", x.when(-1), BEYOND);
        begin(15);
        people(0, 4, 4);
        x.change(0, 2, 2);
        x.change(1, 2, 9);
        due("ahead(0)", x.ahead(0), 4);
        due("ahead(1)", x.ahead(1), 4);
        due("ahead(2)", x.ahead(2), 5);
        due("ahead(4)", x.ahead(4), 5);
        due("ahead(5)", x.ahead(5), 7);
        due("ahead(60)", x.ahead(60), 7);
        due("ahead(61)", x.ahead(61), BEYOND);
        due("ahead(-1)", x.ahead(-1), BEYOND);
        due("of(1, 1)", x.of(1, 1), 4);
        due("now(0)", x.now(0), 0);
    }

    private static void heldAndStill() {
        begin(16);
        due("held()", x.held(), NONE);
        people(0, 0, 5, 5);
        due("held()", x.held(), NONE);
        x.change(0, 2, 9);
        x.change(3, 2, 9);
        x.tie(0, 1, 3);
        x.tie(2, 3, 2);
        due("held()", x.held(), 3);
        x.tie(0, 1, 2);
        due("held()", x.held(), 0);
        x.cut(0);
        due("held()", x.held(), 3);
        x.tie(2, 3, 4);
        due("held()", x.held(), NONE);
        due("now(3)", x.now(3), 0);
        begin(17);
        due("still()", x.still(), 0);
        people(0, 0, 9);
        due("still()", x.still(), 0);
        x.change(0, 2, 7);
        x.change(2, 2, 6);
        due("still()", x.still(), 7);
        x.tie(0, 1, 2);
        due("still()", x.still(), 3);
        x.change(0, 0, 3);
        x.change(0, 4, 4);
        due("still() of a dancer who halts by the clock", x.still(), 3);
        x.change(0, 0, 6);
        x.change(2, 0, 6);
        due("still()", x.still(), 0);
        restless();
        dancersForEver();
        due("now(0)", x.now(0), 0);
    }

    // The dancer is stronger at each other step, and the other one draws it back at those between.
    private static void dancersForEver() {
        begin(17);
        people(1, 0);
        x.change(0, 0, 3);
        x.change(0, 2, 9);
        x.tie(0, 1, 1);
        due("still()", x.still(), NONE);
        due("when(0)", x.when(0), 13);
        due("ahead(59)", x.ahead(59), 1);
        due("ahead(60)", x.ahead(60), 0);
        due("held()", x.held(), 1);
    }

    // The strong one draws the runner along at each step, and the runner comes back.
    private static void restless() {
        begin(17);
        people(5, 5);
        x.change(0, 2, 9);
        x.change(1, 2, 0);
        x.change(0, 4, 9);
        x.tie(0, 1, 1);
        due("still()", x.still(), 4);
    }

    private static void lengthKindLead() {
        begin(18);
        people(0, 2, 4);
        x.change(0, 2, 7);
        x.tie(0, 1, 2);
        due("length(0)", x.length(0), 5);
        x.way(6, 7, 9);
        due("length(0)", x.length(0), 13);
        due("length(1)", x.length(1), 0);
        due("length(2)", x.length(2), NONE);
        due("rope(0)", x.rope(0), 2);
        x.way(6, 7, 0);
        due("length(0)", x.length(0), NONE);
        due("length(3)", x.length(3), BEYOND);
        due("length(-1)", x.length(-1), BEYOND);
        begin(19);
        people(0, 1);
        x.change(0, 2, 7);
        due("kindFor(0)", x.kindFor(0), 4);
        due("kindFor(1)", x.kindFor(1), 0);
        x.change(0, 2, 2);
        due("kindFor(0)", x.kindFor(0), 2);
        x.change(0, 2, 1);
        x.change(0, 0, 6);
        due("kindFor(0)", x.kindFor(0), 0);
        due("of(0, 0)", x.of(0, 0), 6);
        x.change(0, 2, 4);
        x.tie(0, 1, 0);
        due("kindFor(0)", x.kindFor(0), 1);
        x.change(1, 4, 9);
        due("kindFor(0)", x.kindFor(0), 5);
        x.change(0, 2, 6);
        due("kindFor(0)", x.kindFor(0), NONE);
        due("kindFor(2)", x.kindFor(2), BEYOND);
        due("kindFor(-1)", x.kindFor(-1), BEYOND);
        begin(20);
        people(5, 5, 5);
        x.change(0, 2, 8);
        x.tie(0, 1, 1);
        due("lead(0)", x.lead(0), 7);
        due("lead(1)", x.lead(1), 0);
        due("of(1, 2)", x.of(1, 2), 5);
        x.change(1, 0, 6);
        due("lead(0)", x.lead(0), NONE);
        due("lead(2)", x.lead(2), NONE);
        due("lead(3)", x.lead(3), BEYOND);
        due("lead(-1)", x.lead(-1), BEYOND);
    }

    private static void cutsAndMates() {
        begin(21);
        due("cuts()", x.cuts(), 0);
        people(0, 0, 5, 5);
        x.tie(3, 2, 0);
        x.tie(1, 0, 0);
        due("cuts()", x.cuts(), 0);
        x.change(2, 2, 9);
        due("cuts()", x.cuts(), 4);
        x.change(1, 2, 9);
        due("cuts()", x.cuts(), 5);
        x.change(2, 0, 6);
        due("cuts()", x.cuts(), 1);
        due("count(2)", x.count(2), 2);
        begin(21);
        people(0, 0, 0, 0, 0, 0, 0, 0);
        for (int p = 0; p < 8; p += 2) x.tie(p, p + 1, 0);
        x.change(0, 2, 9);
        x.change(3, 2, 9);
        due("cuts() of two of four", x.cuts(), 5);
        due("freed()", x.freed(), 8);
        begin(21);
        // To be led away: with the rope both come to 3, as the anchor cannot go alone.
        people(0, 0);
        x.change(0, 2, 3);
        x.change(1, 2, 3);
        x.change(1, 0, 6);
        x.change(1, 4, 0);
        x.change(0, 0, 1);
        x.change(0, 4, 9);
        x.tie(0, 1, 0);
        due("cuts()", x.cuts(), 0);
        due("freed()", x.freed(), 2);
        begin(22);
        due("freed()", x.freed(), 0);
        people(0, 0, 5, 5);
        due("freed()", x.freed(), 4);
        x.tie(0, 1, 0);
        x.change(1, 2, 9);
        x.change(2, 2, 9);
        x.change(2, 0, 6);
        due("freed()", x.freed(), 3);
        due("ahead(60)", x.ahead(60), 9);
        begin(23);
        people(0, 3, 3);
        x.change(1, 2, 9);
        due("apart(0, 1)", x.apart(0, 1), 9);
        due("apart(1, 0)", x.apart(1, 0), 9);
        due("apart(0, 2)", x.apart(0, 2), 3);
        due("apart(1, 2)", x.apart(1, 2), 6);
        x.change(1, 2, 1);
        due("apart(0, 1)", x.apart(0, 1), 3);
        x.way(3, 4, 0);
        x.change(2, 2, 4);
        due("apart(0, 2)", x.apart(0, 2), 999);
        due("apart(0, 0)", x.apart(0, 0), BEYOND);
        due("apart(0, 3)", x.apart(0, 3), BEYOND);
        due("apart(3, 0)", x.apart(3, 0), BEYOND);
        due("apart(-1, 0)", x.apart(-1, 0), BEYOND);
        pairings();
    }

    private static void pairings() {
        begin(24);
        due("least()", x.least(), 0);
        due("ways()", x.ways(), 1);
        people(0);
        due("least()", x.least(), 0);
        due("ways()", x.ways(), 1);
        due("mate(0)", x.mate(0), -1);
        people(9);
        due("least()", x.least(), 9);
        due("mate(0)", x.mate(0), 1);
        people(1, 8);
        due("least()", x.least(), 2);
        due("mate(0)", x.mate(0), 2);
        due("mate(3)", x.mate(3), 1);
        people(5);
        due("least() of five", x.least(), 2);
        due("mate(4)", x.mate(4), -1);
        begin(25);
        people(4, 4, 4, 4);
        dueMates(1, 0, 3, 2);
        people(4);
        dueMates(-1, 2, 1, 4, 3);
        due("mate(5)", x.mate(5), BEYOND);
        due("mate(-1)", x.mate(-1), BEYOND);
        begin(25);
        people(0, 1, 2);
        dueMates(-1, 2, 1);
        x.change(1, 1, 0);
        x.change(1, 2, 0);
        dueMates(1, 0, -1);
        begin(26);
        int[] wants = {1, 1, 1, 3, 3, 15, 15, 105, 105};
        for (int n = 0; n < 9; n++) {
            due("ways() of " + n, x.ways(), wants[n]);
            x.person(0, 4);
        }
        begin(26);
        people(0, 1, 2);
        due("ways()", x.ways(), 2);
        people(3);
        due("ways()", x.ways(), 1);
        x.change(2, 1, 3);
        x.change(2, 2, 3);
        x.change(1, 1, 0);
        x.change(1, 2, 0);
        due("ways()", x.ways(), 1);
        due("least()", x.least(), 0);
        due("count(2)", x.count(2), 0);
    }

    private static void dueMates(int... wants) {
        for (int p = 0; p < wants.length; p++) due("mate(" + p + ")", x.mate(p), wants[p]);
    }

    private static void tugsPullsDraws() {
        tugsThatWereTold();
        pullsAndKnots();
        daysAndSeed();
    }

    private static void tugsThatWereTold() {
        begin(27);
        due("fits(-1, 0, 0)", x.fits(-1, 0, 0), BEYOND);
        due("fits(4, 0, 0)", x.fits(4, 0, 0), BEYOND);
        due("fits(0, 9, 100)", x.fits(0, 9, 100), MISSING);
        // 1 and 2 go off to 9, strong enough to draw 0 along; 3 stays.
        people(0, 0, 0, 0);
        x.change(1, 2, 9);
        x.change(1, 4, 9);
        x.change(2, 2, 9);
        x.change(2, 4, 4);
        x.change(2, 0, 2);
        x.change(2, 4, 9);
        row(0, 8, 0, 1, 1);
        due("fits(0, 0, 1)", x.fits(0, 0, 1), 1);
        row(1, 16, 1, 2);
        due("fits(1, 0, 1)", x.fits(1, 0, 1), 1);
        row(2, 32);
        due("fits(2, 0, 1)", x.fits(2, 0, 1), 3);
        row(3, 8, 0, 0);
        due("fits(3, 0, 1)", x.fits(3, 0, 1), 1);
        due("fits(3, 0, 2)", x.fits(3, 0, 2), 2);
        due("fits(0, 4, 1)", x.fits(0, 4, 1), BEYOND);
        due("fits(0, -1, 1)", x.fits(0, -1, 1), BEYOND);
        due("fits(0, 0, -1)", x.fits(0, 0, -1), BEYOND);
        due("fits(0, 0, 100)", x.fits(0, 0, 100), BEYOND);
        due("fits(3, 0, 99)", x.fits(3, 0, 99), 3);
        promise = 28;
        due("who(0, 0, 1)", x.who(0, 0, 1), 2);
        due("who(1, 0, 1)", x.who(1, 0, 1), 4);
        due("who(2, 0, 1)", x.who(2, 0, 1), 14);
        due("who(2, 2, 1)", x.who(2, 2, 1), 11);
        due("who(3, 0, 1)", x.who(3, 0, 1), 8);
        due("who(3, 0, 2)", x.who(3, 0, 2), 10);
        x.tie(1, 3, 0);
        due("who(0, 0, 1)", x.who(0, 0, 1), 2);
        due("of(1, 3)", x.of(1, 3), 3);
        due("now(4)", x.now(4), 0);
        due("who(4, 0, 1)", x.who(4, 0, 1), BEYOND);
        due("who(-1, 0, 1)", x.who(-1, 0, 1), BEYOND);
        x.sheet(3, 0, 0);
        due("who(3, 9, 1)", x.who(3, 9, 1), MISSING);
        due("who(0, 4, 1)", x.who(0, 4, 1), BEYOND);
        due("who(0, -1, 1)", x.who(0, -1, 1), BEYOND);
        due("who(0, 0, -1)", x.who(0, 0, -1), BEYOND);
        due("who(0, 0, 100)", x.who(0, 0, 100), BEYOND);
    }

    private static void pullsAndKnots() {
        begin(29);
        due("pulls(0)", x.pulls(0), 0);
        due("pulls(1)", x.pulls(1), BEYOND);
        for (int kind = 0; kind < 7; kind++) x.person(kind, 0);
        due("pulls(0)", x.pulls(0), 0);
        due("pulls(1)", x.pulls(1), 20);
        due("pulls(33)", x.pulls(33), 28);
        due("pulls(3)", x.pulls(3), 60);
        due("pulls(64)", x.pulls(64), 63);
        due("pulls(63)", x.pulls(63), 64);
        due("pulls(27)", x.pulls(27), 100);
        due("pulls(11)", x.pulls(11), 52);
        due("pulls(127)", x.pulls(127), 0);
        due("pulls(128)", x.pulls(128), BEYOND);
        due("pulls(-1)", x.pulls(-1), BEYOND);
        due("pulls(LEAST)", x.pulls(LEAST), BEYOND);
        begin(29);
        people(0, 0, 0, 0, 0, 0, 0, 0);
        due("pulls(255)", x.pulls(255), 0);
        due("pulls(256)", x.pulls(256), BEYOND);
        begin(30);
        due("knots(0, 1)", x.knots(0, 1), 1);
        due("knots(0, 99)", x.knots(0, 99), 1);
        due("knots(1, 99)", x.knots(1, 99), 99);
        due("knots(6, 1)", x.knots(6, 1), 1);
        due("knots(6, 2)", x.knots(6, 2), 64);
        due("knots(6, 99)", x.knots(6, 99), 941480149401L);
        due("knots(5, 99)", x.knots(5, 99), 9509900499L);
        due("knots(-1, 5)", x.knots(-1, 5), BEYOND);
        due("knots(7, 5)", x.knots(7, 5), BEYOND);
        due("knots(1, 0)", x.knots(1, 0), BEYOND);
        due("knots(1, 100)", x.knots(1, 100), BEYOND);
        due("status(0)", x.status(0), 4);
    }

    private static void daysAndSeed() {
        begin(31);
        due("days(0)", x.days(0), BEYOND);
        due("days(11)", x.days(11), BEYOND);
        due("days(-1)", x.days(-1), BEYOND);
        due("days(10)", x.days(10), 0);
        due("count(0)", x.count(0), 100);
        due("count(6)", x.count(6), 1);
        begin(31);
        people(0, 9);
        x.change(1, 0, 6);
        int z = 1;
        int there = 0;
        for (int day = 0; day < 3; day++) {
            z = z * 1103515245 + 12345;
            int first = (z >>> 8) % 10;
            z = z * 1103515245 + 12345;
            int second = (z >>> 8) % 10;
            there += second == 9 ? 2 : 1;
            due("days(1)", x.days(1), second == 9 ? 2 : 1);
            dueOf(1, first, 9);
            dueOf(2, first, second);
        }
        due("count(6)", x.count(6), z);
        due("count(0)", x.count(0), 30);
        StrangerRopes other = new StrangerRopes();
        other.person(0, 0);
        other.person(6, 9);
        due("three days together", other.days(3), there);
        due("of(0, 1)", other.of(0, 1), x.of(0, 1));
        begin(32);
        due("seed(-5)", x.seed(-5), 1);
        due("seed(LEAST)", x.seed(LEAST), -5);
        due("count(6)", x.count(6), LEAST);
        due("seed(-1000001)", x.seed(-1000001), LEAST);
        due("seed(7)", x.seed(7), -1000001);
        due("status(-1)", x.status(-1), 0);
        people(0);
        x.seed(-123456789);
        x.days(1);
        int drawn = -123456789 * 1103515245 + 12345;
        due("of(0, 2)", x.of(0, 2), (drawn >>> 8) % 10);
    }

    private static void texts() {
        begin(33);
        due("feed(0, 0)", x.feed(0, 0), BEYOND);
        due("feed(0, 5)", x.feed(0, 5), BEYOND);
        due("feed(0, -1)", x.feed(0, -1), BEYOND);
        due("feed, 4 bytes", x.feed(0x77617920, 4), 4);
        due("feed, 3 bytes", x.feed(0xff302034, 3), 7);
        due("feed, 2 bytes", x.feed(0xffff2037, 2), 9);
        due("feed, 1 byte", x.feed(0xffffff20, 1), 10);
        due("text()", x.text(), 1);
        due("far(0, 4)", x.far(0, 4), 4);
        due("far(4, 0) without others", x.way(0, 4, 7), 7);
        for (int i = 1; i <= 29; i++) due("feed(0, 4)", x.feed(0, 4), i * 4);
        due("feed(0, 3)", x.feed(0, 3), 119);
        due("feed(0, 2)", x.feed(0, 2), FULL);
        due("feed(0, 5)", x.feed(0, 5), BEYOND);
        due("feed(0, 1)", x.feed(0, 1), 120);
        due("feed(0, 1)", x.feed(0, 1), FULL);
        due("count(5)", x.count(5), 120);
        promise = 34;
        due("wipe()", x.wipe(), 120);
        due("wipe()", x.wipe(), 0);
        due("feed(0, 4)", x.feed(0, 4), 4);
        rightTexts();
        faults();
    }

    private static void rightTexts() {
        begin(35);
        dueText("person", 1);
        dueText(" stout at 2;runner to 3 ; sailor strength 9", 3);
        dueText("dancer at4to5strength0;thief at 1 strength 1;anchor to 7 strength 2;", -69);
        dueText("dancer at4to5strength0;thief at 1 strength 1;anchor to 007 strength 02 ", 3);
        due("count(1)", x.count(1), 7);
        dueOf(0, 0, 1, 2, 5, 3, 4, 6);
        dueOf(1, 0, 2, 0, 0, 4, 1, 0);
        dueOf(2, 0, 2, 3, 0, 5, 1, 7);
        dueOf(4, 3, 3, 3, 9, 0, 1, 2);
        dueOf(3, -1, -1, -1, -1, -1, -1, -1);
        dueText("way 0 1 9;way 9 0 2;way1 0 0", 3);
        due("far(0, 1)", x.far(0, 1), 10);
        dueText("tie 0 1 0;tie 0 2 999;person to 3 strength 4;tie 7 3 12", 4);
        dueOf(3, 2, -1, 0, 7, -1, -1, -1, 3);
        due("rope(0)", x.rope(0), 999);
        due("rope(7)", x.rope(7), 12);
        due("status(-1)", x.status(-1), 0);
    }

    private static void faults() {
        begin(35);
        people(0, 0);
        dueText("", -1);
        dueText("   ", -4);
        dueText(";", -1);
        dueText("way 0 1 3;", -11);
        dueText("way 0 1 3;;", -11);
        dueText("way 0 1 3 way", -11);
        dueText("way 0 1 3#", -10);
        dueText("way 0 1", -8);
        dueText("way 0 1 ", -9);
        dueText("way 0 1 x", -9);
        dueText("way 0 0 1", -7);
        dueText("way 10 0 1", -5);
        dueText("way 0 1 10", -9);
        dueText("way 0 99999999999999999999 1", -7);
        dueText("way 0,1 1", -6);
        dueText("Way 0 1 1", -1);
        dueText("way\t0 1 1", -4);
        dueText("way\u00e40 1 1", -4);
        dueText("ways 0 1 1", -1);
        dueText("wa y", -1);
        dueText("7", -1);
        dueText("tie 0 2 1", -7);
        dueText("tie 2 0 1", -5);
        dueText("tie 1 1 1", -7);
        dueText("tie 0 1 1000", -9);
        dueText("tie 0 1 0001000", -9);
        dueText("tie 0 1", -8);
        dueText("tie 0 2 1;person", -7);
        dueText("person at", -10);
        dueText("person at;", -10);
        dueText("person at 10", -11);
        dueText("person to 10", -11);
        dueText("person strength 10", -17);
        dueText("person to 1 at 1", -13);
        dueText("person at 1 at 1", -13);
        dueText("person strength 1 to 1", -19);
        dueText("personat 1", -1);
        dueText("serson", -1);
        dueText("personz", -1);
        dueText("person`", -7);
        dueText("person{", -7);
        dueText("person at /", -11);
        dueText("person at :", -11);
        dueText("way 0 1 2\0", -10);
        dueText("\0", -1);
        dueText("person at 9 to 10", -16);
        dueText("person at 9 to 9 strength 10", -27);
        dueText("person;person at 9 to 9 strength 9;tie 0 3 999;tie 3 0 1000", -56);
        dueText("person at 1strength", -20);
        dueText("person 1", -8);
        dueText("way 0 9 1;person;person;tie 0 4 1", -31);
        due("count(1)", x.count(1), 2);
        due("count(2)", x.count(2), 0);
        due("count(3)", x.count(3), 9);
        due("status(-1)", x.status(-1), 0);
        begin(35);
        people(0, 0, 0, 0, 0, 0);
        dueText("thief;way 0 1 2;person;stout at 20;walk", -24);
        dueText("thief;person", 2);
        dueText("way 0 1 5;person", -11);
        due("far(0, 1)", x.far(0, 1), 1);
    }

    private static void spotsAndSheets() {
        spots();
        sheets();
        copies();
        loadsAndJudges();
    }

    private static void spots() {
        begin(36);
        due("hold(0, -1)", x.hold(0, -1), 1);
        due("hold(0, 0)", x.hold(0, 0), BEYOND);
        for (int kind = 0; kind < 7; kind++) x.person(kind, 0);
        due("hold(9, 6)", x.hold(9, 6), 1);
        due("hold(0, 6)", x.hold(0, 6), 1);
        due("hold(0, 0)", x.hold(0, 0), 1);
        due("count(7)", x.count(7), 2);
        due("hold(9, -1)", x.hold(9, -1), 1);
        due("count(7)", x.count(7), 1);
        due("hold(0, 7)", x.hold(0, 7), BEYOND);
        due("hold(0, -2)", x.hold(0, -2), BEYOND);
        due("hold(-1, 0)", x.hold(-1, 0), BEYOND);
        due("hold(10, 0)", x.hold(10, 0), BEYOND);
        due("as(0, 0)", x.as(0, 0), 0);
        promise = 37;
        int[] sets = {127, 66, 28, 24, 16, 32, 64};
        for (int kind = 0; kind < 7; kind++) {
            for (int p = 0; p < 7; p++) {
                x.hold(3, p);
                due("as(3, " + kind + ") of " + p, x.as(3, kind), (sets[kind] >> p & 1) != 0 ? p : KIND);
            }
        }
        x.change(6, 0, 2);
        due("as(3, 2)", x.as(3, 2), 6);
        due("as(4, 0)", x.as(4, 0), MISSING);
        due("as(4, 7)", x.as(4, 7), BEYOND);
        due("as(4, -1)", x.as(4, -1), BEYOND);
        due("as(10, 0)", x.as(10, 0), BEYOND);
        due("as(-1, 0)", x.as(-1, 0), BEYOND);
    }

    private static void sheets() {
        begin(38);
        due("sheet(0, 8, 0)", x.sheet(0, 8, 0), 0);
        due("load(0)", x.load(0), 0);
        due("sheet(3, 32, 40)", x.sheet(3, 32, 40), 40);
        due("write(3, 39, 5)", x.write(3, 39, 5), 1);
        due("sheet(3, 0, 40)", x.sheet(3, 0, 40), 0);
        due("load(3)", x.load(3), MISSING);
        due("sheet(3, 0, -1)", x.sheet(3, 0, -1), SIZE);
        due("sheet(3, 0, 41)", x.sheet(3, 0, 41), BEYOND);
        due("sheet(3, 16, -1)", x.sheet(3, 16, -1), SIZE);
        due("sheet(3, 16, 41)", x.sheet(3, 16, 41), BEYOND);
        due("sheet(3, 9, -1)", x.sheet(3, 9, -1), BEYOND);
        due("sheet(3, -8, 1)", x.sheet(3, -8, 1), BEYOND);
        due("sheet(4, 8, -1)", x.sheet(4, 8, -1), BEYOND);
        due("sheet(-1, 8, 1)", x.sheet(-1, 8, 1), BEYOND);
        due("load(3)", x.load(3), MISSING);
        x.sheet(3, 8, 2);
        people(0);
        row(3, 8, 5);
        x.sheet(3, 16, 1);
        due("judge(3), as all are 0", x.judge(3), 0);
        begin(39);
        due("write(0, 0, 0)", x.write(0, 0, 0), MISSING);
        due("write(0, -1, 0)", x.write(0, -1, 0), MISSING);
        due("write(4, 0, 0)", x.write(4, 0, 0), BEYOND);
        due("write(-1, 0, 0)", x.write(-1, 0, 0), BEYOND);
        x.sheet(0, 8, 2);
        due("write(0, 1, 9)", x.write(0, 1, 9), 1);
        due("write(0, 2, 9)", x.write(0, 2, 9), BEYOND);
        due("write(0, -1, 9)", x.write(0, -1, 9), BEYOND);
        due("write(0, MOST, 9)", x.write(0, MOST, 9), BEYOND);
        people(4, 4);
        dueErrand(8, 256 + 7, 7);
        dueErrand(8, 255, -1);
        dueErrand(8, 128 + 5, -1);
        dueErrand(16, 65536 + 6, 6);
        dueErrand(16, 256 + 7, -1);
        dueErrand(16, 65535, -1);
        dueErrand(32, 65536 + 6, -1);
        dueErrand(32, 9, 9);
    }

    // The ERRAND that a number becomes by load(), or -1 if it is none.
    private static void dueErrand(int bits, int v, int want) {
        row(0, bits, v);
        due("load(0) of " + v + ", " + bits + " bits", x.load(0), want < 0 ? 0 : 1);
        if (want >= 0) due("of(0, 2)", x.of(0, 2), want);
    }

    private static void copies() {
        begin(40);
        people(0, 0, 0, 0, 0, 0);
        due("copy(0, 0, 1, 0, 0)", x.copy(0, 0, 1, 0, 0), MISSING);
        due("copy(4, 0, 1, 0, 0)", x.copy(4, 0, 1, 0, 0), BEYOND);
        due("copy(0, 0, -1, 0, 0)", x.copy(0, 0, -1, 0, 0), BEYOND);
        row(0, 8, 1, 2, 3, 4, 5, 6);
        due("copy(0, 0, 1, 0, 0)", x.copy(0, 0, 1, 0, 0), MISSING);
        due("copy(1, 0, 0, 0, 0)", x.copy(1, 0, 0, 0, 0), MISSING);
        row(1, 16, 9, 9, 9, 9);
        due("copy(0, 0, 1, 0, -1)", x.copy(0, 0, 1, 0, -1), KIND);
        row(1, 8, 9, 8, 7, 9);
        due("copy(0, 1, 1, 2, 2)", x.copy(0, 1, 1, 2, 2), 2);
        dueLoaded(1, 9, 8, 2, 3);
        due("copy(0, 0, 0, 1, 5)", x.copy(0, 0, 0, 1, 5), 5);
        dueLoaded(0, 1, 1, 2, 3, 4, 5);
        due("copy(0, 2, 0, 0, 4)", x.copy(0, 2, 0, 0, 4), 4);
        dueLoaded(0, 2, 3, 4, 5, 4, 5);
        due("copy(0, 6, 1, 4, 0)", x.copy(0, 6, 1, 4, 0), 0);
        due("copy(0, 7, 1, 4, 0)", x.copy(0, 7, 1, 4, 0), BEYOND);
        due("copy(0, 0, 1, 0, 5)", x.copy(0, 0, 1, 0, 5), BEYOND);
        due("copy(1, 0, 0, 0, 5)", x.copy(1, 0, 0, 0, 5), BEYOND);
        due("copy(0, 3, 1, 0, 4)", x.copy(0, 3, 1, 0, 4), BEYOND);
        due("copy(0, 0, 1, 1, 4)", x.copy(0, 0, 1, 1, 4), BEYOND);
        due("copy(0, -1, 1, 0, 1)", x.copy(0, -1, 1, 0, 1), BEYOND);
        due("copy(0, 0, 1, -1, 1)", x.copy(0, 0, 1, -1, 1), BEYOND);
        due("copy(0, 0, 1, 0, -1)", x.copy(0, 0, 1, 0, -1), BEYOND);
        due("copy(0, MOST, 1, 0, MOST)", x.copy(0, MOST, 1, 0, MOST), BEYOND);
        due("copy(0, 1, 1, 1, MOST)", x.copy(0, 1, 1, 1, MOST), BEYOND);
        dueLoaded(1, 9, 8, 2, 3);
    }

    private static void dueLoaded(int s, int... wants) {
        due("load(" + s + ")", x.load(s), wants.length);
        dueOf(2, wants);
    }

    private static void loadsAndJudges() {
        begin(41);
        due("load(0)", x.load(0), MISSING);
        due("load(4)", x.load(4), BEYOND);
        due("load(-1)", x.load(-1), BEYOND);
        row(0, 8, 3, 9, 10, 5);
        due("load(0)", x.load(0), 0);
        people(0);
        due("load(0)", x.load(0), 1);
        people(0, 0, 0);
        due("load(0)", x.load(0), 2);
        dueOf(2, 3, 9, 0, 0);
        x.write(0, 2, -1);
        due("load(0)", x.load(0), 2);
        x.write(0, 2, 0);
        due("load(0)", x.load(0), 4);
        dueOf(2, 3, 9, 0, 5);
        dueOf(1, 0, 0, 0, 0);
        begin(42);
        due("judge(0)", x.judge(0), MISSING);
        due("judge(4)", x.judge(4), BEYOND);
        due("judge(-1)", x.judge(-1), BEYOND);
        row(0, 8);
        row(1, 8, 0, 0);
        due("judge(0)", x.judge(0), 0);
        due("judge(1)", x.judge(1), 1);
        people(0, 3);
        due("judge(0)", x.judge(0), 0);
        due("judge(1)", x.judge(1), 0);
        x.change(0, 2, 4);
        row(1, 32, 1, 2, 3, 4, 4, 4);
        due("judge(1)", x.judge(1), 0);
        x.write(1, 5, 5);
        due("judge(1)", x.judge(1), 6);
        x.write(1, 0, 0);
        due("judge(1)", x.judge(1), 1);
        due("of(0, 1)", x.of(0, 1), 0);
        due("count(0)", x.count(0), 0);
        x.tie(0, 1, 2);
        row(1, 32, 1);
        due("judge(1)", x.judge(1), 0);
        x.go(1);
        due("judge(1)", x.judge(1), 1);
    }

    private static void images() {
        imageAndUndo();
        counts();
        statuses();
    }

    private static void imageAndUndo() {
        begin(43);
        people(0, 5);
        x.tie(0, 1, 2);
        x.change(1, 2, 9);
        x.change(0, 4, 7);
        x.hold(2, 1);
        x.way(0, 9, 3);
        x.seed(77);
        x.go(4);
        due("image()", x.image(), 1);
        x.go(3);
        people(4);
        x.change(1, 0, 4);
        x.change(0, 4, 1);
        x.hold(2, -1);
        x.hold(3, 2);
        x.way(0, 9, 0);
        x.cut(0);
        x.days(1);
        x.sheet(1, 8, 3);
        x.feed(0, 3);
        due("now(2)", x.now(2), 0);
        promise = 44;
        due("undo()", x.undo(), 4);
        due("count(0)", x.count(0), 4);
        due("count(1)", x.count(1), 2);
        due("count(2)", x.count(2), 1);
        due("count(3)", x.count(3), 12);
        due("count(4)", x.count(4), 2);
        due("count(5)", x.count(5), 3);
        due("count(6)", x.count(6), 77);
        due("count(7)", x.count(7), 1);
        due("as(2, 0)", x.as(2, 0), 1);
        due("as(3, 0)", x.as(3, 0), MISSING);
        due("load(1)", x.load(1), 2);
        dueOf(0, 0, 0);
        dueOf(1, 0, 5);
        dueOf(3, 1, 0);
        dueOf(4, 7, 3);
        dueOf(7, 0, 4);
        due("far(0, 9)", x.far(0, 9), 3);
        due("next(1)", x.next(1), 4);
        x.go(1);
        due("undo()", x.undo(), 4);
        due("image() once more", x.image(), 1);
        x.go(2);
        due("image() later", x.image(), 1);
        x.go(2);
        due("undo()", x.undo(), 6);
        promise = 45;
        due("tear()", x.tear(), 1);
        due("tear()", x.tear(), 0);
        due("undo()", x.undo(), NONE);
        due("count(0)", x.count(0), 6);
        due("image()", x.image(), 1);
        due("undo()", x.undo(), 6);
    }

    private static void counts() {
        begin(46);
        people(0, 0, 0, 0, 0);
        x.tie(4, 0, 10);
        x.tie(1, 3, 5);
        x.way(0, 9, 7);
        x.way(4, 5, 0);
        x.feed(0, 2);
        x.hold(9, 0);
        x.hold(0, 0);
        x.go(7);
        int[] wants = {7, 5, 2, 15, 15, 2, 1, 2};
        for (int i = 0; i < wants.length; i++) due("count(" + i + ")", x.count(i), wants[i]);
        due("count(8)", x.count(8), BEYOND);
        due("count(-1)", x.count(-1), BEYOND);
    }

    private static void statuses() {
        begin(47);
        x.far(0, 10);
        x.far(0, 11);
        x.image();
        x.undo();
        x.tear();
        x.undo();
        for (int i = 0; i < 9; i++) x.person(0, 0);
        x.cut(0);
        x.rope(0);
        x.tie(0, 1, 0);
        x.change(0, 1, 5);
        x.hold(0, 0);
        x.as(0, 3);
        x.as(0, 4);
        x.as(0, 5);
        x.as(1, 0);
        x.load(0);
        x.judge(0);
        x.write(0, 0, 0);
        x.sheet(0, 8, -3);
        x.knots(7, 7);
        x.text();
        int[] wants = {16, 3, 1, 3, 3, 1, 4, 1};
        for (int i = 0; i < wants.length; i++) due("status(" + (i - 1) + ")", x.status(i - 1), wants[i]);
        due("status(7)", x.status(7), BEYOND);
        due("status(-2)", x.status(-2), BEYOND);
        due("status(0)", x.status(0), 5);
        due("status(-1)", x.status(-1), 18);
        x.image();
        x.far(0, 10);
        x.undo();
        due("status(0)", x.status(0), 6);
    }
}
