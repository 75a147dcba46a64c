import java.nio.charset.StandardCharsets;
import java.util.TreeSet;

/** What the tests of edges share: a fresh object for each sentence of the document, and what it needs. */
class Edges {
    static final long BEYOND = Check.BEYOND;
    static final long FULL = Check.FULL;
    static final long KIND = Check.KIND;
    static final long NONE = Check.NONE;
    static final long STATE = Check.STATE;
    static final long MISSING = Check.MISSING;
    static final long SIZE = Check.SIZE;
    static final int LEAST = Integer.MIN_VALUE;
    static final int MOST = Integer.MAX_VALUE;

    static StrangerRopes x = new StrangerRopes();
    private static Check check = new Check("Edges");
    private static final TreeSet<Integer> promises = new TreeSet<>();
    private static String sentence = "";

    static void begin(String name) {
        check = new Check(name);
    }

    // What follows is due by this sentence of the promise (or of the Terms that the promise uses), on a new object.
    static void edge(int promise, String words) {
        promises.add(promise);
        sentence = "promise " + promise + ", '" + words + "': ";
        x = new StrangerRopes();
    }

    static void due(String call, long got, long want) {
        check.due(sentence + call, got, want);
    }

    // Each promise from one to another must have had an edge.
    static void end(int from, int to) {
        for (int p = from; p <= to; p++) check.isTrue("promise " + p + " has an edge", promises.contains(p));
        end();
    }

    static void end() {
        check.end();
    }

    static void people(int... places) {
        for (int place : places) x.person(0, place);
    }

    // One of a kind at a place, with an errand and a strength: its number.
    static int one(int kind, int at, int errand, int strength) {
        int p = x.person(kind, at);
        x.change(p, 2, errand);
        x.change(p, 4, strength);
        return p;
    }

    // What of() tells of PEOPLE 0, 1, ..
    static void dueOf(int what, int... wants) {
        for (int p = 0; p < wants.length; p++) due("of(" + p + ", " + what + ")", x.of(p, what), wants[p]);
    }

    static void feed(String text) {
        feedTo(x, text);
    }

    // By fours, so that many texts take less than the calls for which an object is promised.
    static void feedTo(StrangerRopes to, String text) {
        byte[] bytes = text.getBytes(StandardCharsets.ISO_8859_1);
        int i = 0;
        while (i < bytes.length) {
            int n = Math.min(4, bytes.length - i);
            int number = 0;
            for (int k = 0; k < n; k++) number = number << 8 | bytes[i + k] & 255;
            to.feed(number, n);
            i += n;
        }
    }

    static void dueText(String text, long want) {
        feed(text);
        due("text() of '" + text + "'", x.text(), want);
        due("count(5) behind it", x.count(5), 0);
    }

    static void row(int s, int bits, int... numbers) {
        x.sheet(s, bits, numbers.length);
        for (int i = 0; i < numbers.length; i++) x.write(s, i, numbers[i]);
    }

    static void apartFromAll(int place) {
        for (int other = 0; other < 10; other++) {
            if (other != place) x.way(place, other, 0);
        }
    }
}
