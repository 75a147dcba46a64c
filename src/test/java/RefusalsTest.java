import java.util.ArrayList;
import java.util.List;

/**
 * Each act at the numbers just beyond those that are allowed, and at each other finding: it is counted once, and all
 * else is as if it had not been called. Each act that only tells: nothing changes, status() included.
 */
public final class RefusalsTest extends Edges {
    private interface Act {
        long on(StrangerRopes x, int... v);
    }

    private interface Scene {
        void make(StrangerRopes x);
    }

    private interface Look {
        void at(StrangerRopes x, List<Long> answers);
    }

    private static final int UNTOLD = 0;
    // A look changes what it looks at (text(), undo(), ..), so each begins with a new country.
    private static final Look[] LOOKS = {RefusalsTest::lookAtCountry, RefusalsTest::lookAtSheets,
        RefusalsTest::lookAtTape, RefusalsTest::lookAtImage, RefusalsTest::lookAtTear};

    private static Scene scene = RefusalsTest::empty;
    private static int calls = 0;

    public static void main(String[] args) {
        begin("RefusalsTest");
        inAnEmptyCountry();
        inABusyCountry();
        inAFullCountry();
        edge(47, "how many calls were looked at");
        due("more than 500", calls > 500 ? 1 : 0, 1);
        end();
    }

    // ---- countries

    private static void empty(StrangerRopes country) {
        country.go(1);
    }

    // Six people, two ropes, holds and tugs, an image of an earlier day, three sheets, a TAPE that is a TEXT.
    private static void busy(StrangerRopes country) {
        x = country;
        one(0, 2, 9, 3);
        one(5, 2, 2, 3);
        one(2, 5, 9, 9);
        one(4, 5, 0, 1);
        one(6, 7, 7, 2);
        x.tie(0, 1, 1);
        x.image();
        x.tie(2, 3, 0);
        x.way(0, 9, 5);
        x.way(4, 5, 2);
        x.seed(-99);
        x.go(6);
        one(3, 8, 4, 6);
        x.hold(2, 3);
        x.hold(9, 5);
        row(0, 8, 5, 1, 4, 6, 9, 0, 3, 2, 7, 8, -1);
        row(1, 16, 2, 7, 8, 10);
        row(2, 8, 1, 2, 3);
        feed("way 1 7 4;runner at 6");
    }

    // Eight people, a full TAPE but for two bytes, no image.
    private static void full(StrangerRopes country) {
        x = country;
        for (int p = 0; p < 8; p++) one(p % 7, p, 9 - p, p);
        for (int p = 0; p < 8; p += 2) x.tie(p, p + 1, p);
        for (int spot = 0; spot < 10; spot++) x.hold(spot, spot % 8);
        for (int i = 0; i < 3; i++) x.sheet(i, 32, 40);
        x.sheet(3, 16, 40);
        feed("way0 9 7;" + "way 3 4 8;".repeat(10) + "way 2 3 4");
    }

    // ---- what is looked at

    private static void lookAtCountry(StrangerRopes country, List<Long> answers) {
        for (int what = 0; what < 8; what++) answers.add((long) country.count(what));
        for (int what = 0; what < 5; what++) answers.add((long) country.now(what));
        int people = country.count(1);
        for (int p = 0; p < people; p++) {
            for (int what = 0; what < 9; what++) answers.add((long) country.of(p, what));
            answers.add((long) country.rope(p));
        }
        for (int a = 0; a < 10; a++) {
            for (int b = 0; b < a; b++) answers.add((long) country.far(a, b));
        }
        for (int spot = 0; spot < 10; spot++) answers.add((long) country.as(spot, 0));
    }

    private static void lookAtSheets(StrangerRopes country, List<Long> answers) {
        while (country.person(0, 0) >= 0) answers.add(0L);
        for (int s = 0; s < 4; s++) {
            for (int t = s; t < 4; t++) answers.add((long) country.copy(s, 0, t, 0, 0));
            int size = 0;
            while (size < 40 && country.copy(s, size, s, size, 1) == 1) size++;
            answers.add((long) size);
            for (int i = 0; i < size; i += 8) {
                country.copy(s, i, s, 0, Math.min(8, size - i));
                answers.add((long) country.load(s));
                for (int p = 0; p < 8; p++) answers.add((long) country.of(p, 2));
            }
        }
    }

    private static void lookAtTape(StrangerRopes country, List<Long> answers) {
        answers.add((long) country.text());
        lookAtCountry(country, answers);
    }

    private static void lookAtImage(StrangerRopes country, List<Long> answers) {
        answers.add((long) country.undo());
        lookAtCountry(country, answers);
    }

    private static void lookAtTear(StrangerRopes country, List<Long> answers) {
        answers.add((long) country.tear());
        answers.add((long) country.wipe());
    }

    private static StrangerRopes country() {
        StrangerRopes made = new StrangerRopes();
        scene.make(made);
        return made;
    }

    private static String named(String name, int... v) {
        StringBuilder call = new StringBuilder(name).append('(');
        for (int i = 0; i < v.length; i++) call.append(i == 0 ? "" : ", ").append(v[i]);
        return call.append(')').toString();
    }

    // An act that only tells answers no finding; what it tells is due elsewhere.
    private static void tells(int promise, String name, Act act, int... v) {
        edge(promise, "nothing changes");
        leaves(named(name, v), UNTOLD, act, v);
    }

    private static void refused(int promise, String name, long finding, Act act, int... v) {
        edge(promise, "one that answers a finding changes nothing but status()");
        leaves(named(name, v), finding, act, v);
    }

    private static void leaves(String call, long finding, Act act, int... v) {
        calls++;
        StrangerRopes one = country();
        StrangerRopes other = country();
        long answer = act.on(one, v);
        if (finding == UNTOLD) due(call + " is no finding", answer < -1000000 ? answer : 0, 0);
        else due(call, answer, finding);
        for (int which = 0; which < 7; which++) {
            int more = finding == -1000001 - which ? 1 : 0;
            due("status(" + which + ") behind " + call, one.status(which), other.status(which) + more);
        }
        for (int i = 0; i < LOOKS.length; i++) {
            List<Long> behind = new ArrayList<>();
            List<Long> without = new ArrayList<>();
            one = country();
            other = country();
            act.on(one, v);
            LOOKS[i].at(one, behind);
            LOOKS[i].at(other, without);
            due("look " + i + " behind " + call + " is alike", behind.equals(without) ? 1 : 0, 1);
        }
    }

    // A number of an act, 0 for the first: from the least to the greatest it isn't BEYOND, next to them it is.
    private static void range(int promise, String name, Act act, int which, int least, int greatest, int... v) {
        int[] right = {least, greatest};
        edge(promise, "the least and the greatest that are allowed");
        for (int number : right) {
            int[] with = v.clone();
            with[which] = number;
            due(named(name, with) + " is not BEYOND", act.on(country(), with) == BEYOND ? 1 : 0, 0);
        }
        int[] wrong = {least - 1, greatest + 1, LEAST, MOST};
        for (int number : wrong) {
            int[] with = v.clone();
            with[which] = number;
            refused(promise, name, BEYOND, act, with);
        }
    }

    // ---- countries and their acts

    private static void inAnEmptyCountry() {
        scene = RefusalsTest::empty;
        int[] strangers = {-1, 0, 7, 8};
        for (int p : strangers) {
            refused(5, "of", BEYOND, (x, v) -> x.of(v[0], v[1]), p, 0);
            refused(6, "change", BEYOND, (x, v) -> x.change(v[0], v[1], v[2]), p, 2, 0);
            refused(7, "tie", BEYOND, (x, v) -> x.tie(v[0], v[1], v[2]), p, 1, 0);
            refused(8, "cut", BEYOND, (x, v) -> x.cut(v[0]), p);
            refused(9, "rope", BEYOND, (x, v) -> x.rope(v[0]), p);
            refused(12, "next", BEYOND, (x, v) -> x.next(v[0]), p);
            refused(13, "may", BEYOND, (x, v) -> x.may(v[0], v[1]), p, 0);
            refused(14, "when", BEYOND, (x, v) -> x.when(v[0]), p);
            refused(18, "length", BEYOND, (x, v) -> x.length(v[0]), p);
            refused(19, "kindFor", BEYOND, (x, v) -> x.kindFor(v[0]), p);
            refused(20, "lead", BEYOND, (x, v) -> x.lead(v[0]), p);
            refused(23, "apart", BEYOND, (x, v) -> x.apart(v[0], v[1]), p, 1);
            refused(25, "mate", BEYOND, (x, v) -> x.mate(v[0]), p);
            refused(27, "fits", MISSING, (x, v) -> x.fits(v[0], v[1], v[2]), 0, p, 0);
            refused(28, "who", MISSING, (x, v) -> x.who(v[0], v[1], v[2]), 0, p, 0);
        }
        range(29, "pulls", (x, v) -> x.pulls(v[0]), 0, 0, 0, 0);
        range(36, "hold", (x, v) -> x.hold(v[0], v[1]), 1, -1, -1, 0, 0);
        refused(16, "held", NONE, (x, v) -> x.held());
        refused(44, "undo", NONE, (x, v) -> x.undo());
        refused(37, "as", MISSING, (x, v) -> x.as(v[0], v[1]), 3, 0);
        for (int s = 0; s < 4; s++) refusedOfMissing(s);
        tells(15, "ahead", (x, v) -> x.ahead(v[0]), 60);
        tells(17, "still", (x, v) -> x.still());
        tells(45, "tear of nothing", (x, v) -> x.tear());
        tells(34, "wipe of nothing", (x, v) -> x.wipe());
        tells(35, "text of nothing", (x, v) -> x.text());
        tellOfAll();
    }

    private static void refusedOfMissing(int s) {
        refused(39, "write", MISSING, (x, v) -> x.write(v[0], v[1], v[2]), s, 0, 0);
        refused(40, "copy", MISSING, (x, v) -> x.copy(v[0], 0, v[1], 0, 0), s, 3);
        refused(41, "load", MISSING, (x, v) -> x.load(v[0]), s);
        refused(42, "judge", MISSING, (x, v) -> x.judge(v[0]), s);
    }

    private static void inABusyCountry() {
        scene = RefusalsTest::busy;
        rangesOfPlaces();
        rangesOfPeople();
        rangesOfTies();
        rangesOfNumbers();
        rangesOfSheets();
        findingsOfPeople();
        findingsOfSheets();
        for (int p = 0; p < 6; p++) tellOf(p);
        tells(14, "when", (x, v) -> x.when(v[0]), 2);
        tells(18, "length", (x, v) -> x.length(v[0]), 0);
        tells(19, "kindFor", (x, v) -> x.kindFor(v[0]), 5);
        tells(20, "lead", (x, v) -> x.lead(v[0]), 1);
        tellOfAll();
        tells(23, "apart", (x, v) -> x.apart(v[0], v[1]), 0, 5);
        tells(29, "pulls", (x, v) -> x.pulls(v[0]), 5);
        tells(37, "as", (x, v) -> x.as(v[0], v[1]), 9, 3);
        tells(42, "judge", (x, v) -> x.judge(v[0]), 0);
        tells(16, "held", (x, v) -> x.held());
        tells(3, "far", (x, v) -> x.far(v[0], v[1]), 0, 9);
        for (int s = 0; s < 3; s++) {
            tells(27, "fits", (x, v) -> x.fits(v[0], v[1], v[2]), s, 3, 0);
            tells(28, "who", (x, v) -> x.who(v[0], v[1], v[2]), s, 3, 2);
            tells(40, "copy of none", (x, v) -> x.copy(v[0], v[1], v[0], v[2], 0), s, 1, 2);
        }
    }

    private static void rangesOfPlaces() {
        range(2, "way", (x, v) -> x.way(v[0], v[1], v[2]), 0, 0, 9, 2, 3, 1);
        range(2, "way", (x, v) -> x.way(v[0], v[1], v[2]), 1, 0, 9, 2, 3, 1);
        range(2, "way", (x, v) -> x.way(v[0], v[1], v[2]), 2, 0, 9, 2, 3, 1);
        for (int p = 0; p < 10; p++) refused(2, "way", BEYOND, (x, v) -> x.way(v[0], v[0], 5), p);
        range(3, "far", (x, v) -> x.far(v[0], v[1]), 0, 0, 9, 2, 3);
        range(3, "far", (x, v) -> x.far(v[0], v[1]), 1, 0, 9, 2, 3);
        range(4, "person", (x, v) -> x.person(v[0], v[1]), 0, 0, 6, 2, 3);
        range(4, "person", (x, v) -> x.person(v[0], v[1]), 1, 0, 9, 2, 3);
        range(13, "may", (x, v) -> x.may(v[0], v[1]), 1, 0, 9, 2, 3);
    }

    private static void rangesOfPeople() {
        range(5, "of", (x, v) -> x.of(v[0], v[1]), 0, 0, 5, 0, 0);
        range(5, "of", (x, v) -> x.of(v[0], v[1]), 1, 0, 8, 0, 0);
        range(6, "change", (x, v) -> x.change(v[0], v[1], v[2]), 0, 0, 5, 0, 2, 0);
        int[] whats = {0, 1, 2, 4};
        int[] greatest = {6, 9, 9, 9};
        for (int i = 0; i < 4; i++) {
            range(6, "change", (x, v) -> x.change(v[0], v[1], v[2]), 2, 0, greatest[i], 4, whats[i], 0);
        }
        int[] others = {-1, 3, 5, 6, 7, 8, 9, LEAST, MOST};
        for (int what : others) refused(6, "change", BEYOND, (x, v) -> x.change(v[0], v[1], v[2]), 0, what, 1);
        range(8, "cut", (x, v) -> x.cut(v[0]), 0, 0, 5, 0);
        range(9, "rope", (x, v) -> x.rope(v[0]), 0, 0, 5, 0);
        range(12, "next", (x, v) -> x.next(v[0]), 0, 0, 5, 0);
        range(13, "may", (x, v) -> x.may(v[0], v[1]), 0, 0, 5, 0, 0);
        range(14, "when", (x, v) -> x.when(v[0]), 0, 0, 5, 0);
        range(18, "length", (x, v) -> x.length(v[0]), 0, 0, 5, 0);
        range(19, "kindFor", (x, v) -> x.kindFor(v[0]), 0, 0, 5, 0);
        range(20, "lead", (x, v) -> x.lead(v[0]), 0, 0, 5, 0);
        range(25, "mate", (x, v) -> x.mate(v[0]), 0, 0, 5, 0);
    }

    private static void rangesOfTies() {
        range(7, "tie", (x, v) -> x.tie(v[0], v[1], v[2]), 0, 0, 5, 1, 2, 3);
        range(7, "tie", (x, v) -> x.tie(v[0], v[1], v[2]), 1, 0, 5, 1, 2, 3);
        range(7, "tie", (x, v) -> x.tie(v[0], v[1], v[2]), 2, 0, 999, 1, 2, 3);
        range(23, "apart", (x, v) -> x.apart(v[0], v[1]), 0, 0, 5, 1, 2);
        range(23, "apart", (x, v) -> x.apart(v[0], v[1]), 1, 0, 5, 1, 2);
        for (int p = 0; p < 6; p++) {
            refused(7, "tie", BEYOND, (x, v) -> x.tie(v[0], v[0], 1), p);
            refused(23, "apart", BEYOND, (x, v) -> x.apart(v[0], v[0]), p);
        }
    }

    private static void rangesOfNumbers() {
        range(10, "go", (x, v) -> x.go(v[0]), 0, 1, 40, 1);
        range(11, "now", (x, v) -> x.now(v[0]), 0, 0, 4, 0);
        range(15, "ahead", (x, v) -> x.ahead(v[0]), 0, 0, 60, 0);
        range(29, "pulls", (x, v) -> x.pulls(v[0]), 0, 0, 63, 0);
        range(30, "knots", (x, v) -> x.knots(v[0], v[1]), 0, 0, 6, 1, 1);
        range(30, "knots", (x, v) -> x.knots(v[0], v[1]), 1, 1, 99, 1, 1);
        range(31, "days", (x, v) -> x.days(v[0]), 0, 1, 10, 1);
        range(33, "feed", (x, v) -> x.feed(v[0], v[1]), 1, 1, 4, 1, 1);
        range(46, "count", (x, v) -> x.count(v[0]), 0, 0, 7, 0);
        range(47, "status", (x, v) -> x.status(v[0]), 0, -1, 6, 0);
    }

    private static void rangesOfSheets() {
        range(27, "fits", (x, v) -> x.fits(v[0], v[1], v[2]), 0, 0, 3, 0, 3, 1);
        range(27, "fits", (x, v) -> x.fits(v[0], v[1], v[2]), 1, 0, 5, 0, 3, 1);
        range(27, "fits", (x, v) -> x.fits(v[0], v[1], v[2]), 2, 0, 99, 0, 3, 1);
        range(28, "who", (x, v) -> x.who(v[0], v[1], v[2]), 0, 0, 3, 0, 3, 1);
        range(28, "who", (x, v) -> x.who(v[0], v[1], v[2]), 1, 0, 5, 0, 3, 1);
        range(28, "who", (x, v) -> x.who(v[0], v[1], v[2]), 2, 0, 99, 0, 3, 1);
        range(36, "hold", (x, v) -> x.hold(v[0], v[1]), 0, 0, 9, 0, 0);
        range(36, "hold", (x, v) -> x.hold(v[0], v[1]), 1, -1, 5, 0, 0);
        range(37, "as", (x, v) -> x.as(v[0], v[1]), 0, 0, 9, 0, 0);
        range(37, "as", (x, v) -> x.as(v[0], v[1]), 1, 0, 6, 9, 0);
        range(38, "sheet", (x, v) -> x.sheet(v[0], v[1], v[2]), 0, 0, 3, 0, 8, 3);
        range(39, "write", (x, v) -> x.write(v[0], v[1], v[2]), 0, 0, 3, 0, 0, 3);
        range(39, "write", (x, v) -> x.write(v[0], v[1], v[2]), 1, 0, 10, 0, 0, 3);
        range(40, "copy", (x, v) -> x.copy(v[0], v[1], v[2], v[3], v[4]), 0, 0, 3, 2, 0, 2, 1, 2);
        range(40, "copy", (x, v) -> x.copy(v[0], v[1], v[2], v[3], v[4]), 1, 0, 9, 0, 0, 2, 1, 2);
        range(40, "copy", (x, v) -> x.copy(v[0], v[1], v[2], v[3], v[4]), 2, 0, 3, 2, 0, 2, 1, 2);
        range(40, "copy", (x, v) -> x.copy(v[0], v[1], v[2], v[3], v[4]), 3, 0, 1, 0, 0, 2, 1, 2);
        range(40, "copy", (x, v) -> x.copy(v[0], v[1], v[2], v[3], v[4]), 4, 0, 3, 0, 0, 2, 0, 2);
        range(41, "load", (x, v) -> x.load(v[0]), 0, 0, 3, 0);
        range(42, "judge", (x, v) -> x.judge(v[0]), 0, 0, 3, 0);
    }

    private static void findingsOfPeople() {
        refused(6, "change", STATE, (x, v) -> x.change(v[0], v[1], v[2]), 0, 1, 9);
        refused(6, "change", STATE, (x, v) -> x.change(v[0], v[1], v[2]), 3, 1, 0);
        refused(8, "cut", NONE, (x, v) -> x.cut(v[0]), 4);
        refused(9, "rope", NONE, (x, v) -> x.rope(v[0]), 5);
        refused(14, "when", NONE, (x, v) -> x.when(v[0]), 0);
        refused(18, "length", NONE, (x, v) -> x.length(v[0]), 4);
        refused(19, "kindFor", NONE, (x, v) -> x.kindFor(v[0]), 3);
        refused(20, "lead", NONE, (x, v) -> x.lead(v[0]), 5);
        refused(37, "as", MISSING, (x, v) -> x.as(v[0], v[1]), 0, 0);
        refused(37, "as", KIND, (x, v) -> x.as(v[0], v[1]), 2, 5);
    }

    private static void findingsOfSheets() {
        refusedOfMissing(3);
        refused(27, "fits", MISSING, (x, v) -> x.fits(v[0], v[1], v[2]), 3, 9, 100);
        refused(28, "who", MISSING, (x, v) -> x.who(v[0], v[1], v[2]), 3, 9, 100);
        int[] bits = {0, 8, 16, 32};
        for (int b : bits) {
            refused(38, "sheet", SIZE, (x, v) -> x.sheet(v[0], v[1], v[2]), 0, b, -1);
            refused(38, "sheet", SIZE, (x, v) -> x.sheet(v[0], v[1], v[2]), 0, b, LEAST);
            refused(38, "sheet", BEYOND, (x, v) -> x.sheet(v[0], v[1], v[2]), 0, b, 41);
            refused(38, "sheet", BEYOND, (x, v) -> x.sheet(v[0], v[1], v[2]), 0, b, MOST);
        }
        int[] others = {-8, 1, 7, 9, 15, 17, 31, 33, 64, LEAST, MOST};
        for (int b : others) refused(38, "sheet", BEYOND, (x, v) -> x.sheet(v[0], v[1], v[2]), 0, b, 2);
        refused(40, "copy", KIND, (x, v) -> x.copy(v[0], v[1], v[2], v[3], v[4]), 0, 0, 1, 0, 2);
        refused(40, "copy", BEYOND, (x, v) -> x.copy(v[0], v[1], v[2], v[3], v[4]), 0, 0, 2, 2, 2);
        refused(40, "copy", BEYOND, (x, v) -> x.copy(v[0], v[1], v[2], v[3], v[4]), 0, MOST, 2, 0, MOST);
        refused(40, "copy", BEYOND, (x, v) -> x.copy(v[0], v[1], v[2], v[3], v[4]), 0, 0, 2, 0, 4);
    }

    private static void tellOf(int p) {
        for (int what = 0; what < 9; what++) tells(5, "of", (x, v) -> x.of(v[0], v[1]), p, what);
        tells(12, "next", (x, v) -> x.next(v[0]), p);
        tells(13, "may", (x, v) -> x.may(v[0], v[1]), p, 4);
        tells(25, "mate", (x, v) -> x.mate(v[0]), p);
    }

    private static void tellOfAll() {
        for (int what = 0; what < 5; what++) tells(11, "now", (x, v) -> x.now(v[0]), what);
        for (int what = 0; what < 8; what++) tells(46, "count", (x, v) -> x.count(v[0]), what);
        for (int which = -1; which < 7; which++) tells(47, "status", (x, v) -> x.status(v[0]), which);
        tells(15, "ahead", (x, v) -> x.ahead(v[0]), 60);
        tells(21, "cuts", (x, v) -> x.cuts());
        tells(22, "freed", (x, v) -> x.freed());
        tells(24, "least", (x, v) -> x.least());
        tells(26, "ways", (x, v) -> x.ways());
        tells(30, "knots", (x, v) -> x.knots(v[0], v[1]), 6, 99);
    }

    private static void inAFullCountry() {
        scene = RefusalsTest::full;
        refused(4, "person", FULL, (x, v) -> x.person(v[0], v[1]), 0, 0);
        refused(4, "person", BEYOND, (x, v) -> x.person(v[0], v[1]), 7, 0);
        for (int n = 3; n < 5; n++) refused(33, "feed", FULL, (x, v) -> x.feed(v[0], v[1]), -1, n);
        range(33, "feed", (x, v) -> x.feed(v[0], v[1]), 1, 1, 4, 1, 1);
        range(5, "of", (x, v) -> x.of(v[0], v[1]), 0, 0, 7, 0, 0);
        range(6, "change", (x, v) -> x.change(v[0], v[1], v[2]), 0, 0, 7, 0, 2, 0);
        range(7, "tie", (x, v) -> x.tie(v[0], v[1], v[2]), 0, 0, 7, 1, 2, 3);
        range(29, "pulls", (x, v) -> x.pulls(v[0]), 0, 0, 255, 0);
        range(36, "hold", (x, v) -> x.hold(v[0], v[1]), 1, -1, 7, 0, 0);
        range(39, "write", (x, v) -> x.write(v[0], v[1], v[2]), 1, 0, 39, 0, 0, 3);
        range(40, "copy", (x, v) -> x.copy(v[0], v[1], v[2], v[3], v[4]), 4, 0, 40, 0, 0, 2, 0, 2);
        refused(40, "copy", KIND, (x, v) -> x.copy(v[0], v[1], v[2], v[3], v[4]), 0, 0, 3, 0, 1);
        refused(44, "undo", NONE, (x, v) -> x.undo());
        tells(45, "tear of nothing", (x, v) -> x.tear());
        tells(21, "cuts", (x, v) -> x.cuts());
        tells(26, "ways", (x, v) -> x.ways());
    }
}
